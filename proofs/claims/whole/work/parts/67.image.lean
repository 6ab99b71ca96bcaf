/-! the pairs: image, restore -/
section IMAGE
variable {h : AH} {Q : Option Value → AH → Prop} {ho pu ye bo ta ax wr : Int32} {be : Int64} {kn pr im : Int32} {f ig : Nat → Int32} {n p q : Nat}
theorem M_lay_loop (hq : ¬ q = 56) (hp : p + n ≤ 99) : ∀ (d i : Nat) (h : AH), i + d = n → h 39 = mO ho pu ye bo ta ax wr be kn pr im → h q = aI n f → h 56 = aI 99 (fb_put ig f p i) → Wp none 130 qM_lay_2 [some (.ref 39), some (.ref q), some (.int (nI p)), some (.int (nI i))] [] h Q = Q (some (.int (nI (p + n)))) (uH h 56 (aI 99 (fb_put ig f p n))) := by
  have pn : nI p + Int32.ofNat n = nI (p + n) := nI_add p n
  intro d
  induction d with
  | zero =>
    intro i h hi h39 hq' h56
    have e : i = n := by omega
    subst e
    have hc : Int32.ofNat i ≤ nI i := nI_le (Nat.le_refl i) (by omega)
    simp only [qM_lay_2, qM_lay_25, jM_lay_25, w0, w1, w2i, w2r, w3, w4, w5_0, w5_1, w5_2, w5_3, w5_4, w5_5, w5_6, w5_7, w5_8, w6_0, w6_1, w7_0, w7_1, w7_2, w7_3, w7_4, w7_5, w8_0, w8_1, w9_0, w9_1, w9_2, w10_0, w10_1, w10_2, w10_3, w10_4, w10_5, w11, w12_0, w12_1, w12_2, w12_3, w12_4, w12_5, w13_0, w13_1, w13_2, w13_3, w13_4, w13_5, w14, w15i, w15r, w16, w17, w18, w19i, w19z, w19l, w20, w21, w22, w23, w24, w25, w26, w27, w28_1, w28_2, w28_3, w28_4, w28_5, w28_6, w29, w30i, w30z, w31, w32, w33, w34, w35, w36, w37_1, w37_2, w37_3, w37_4, w37_5, w37_6, isO_O, set1_0, set1_1i, set1_1r, set1_1n, set1_1l, set1_s, set2_0, set2_1i, set2_1r, set2_1n, set2_1l, set2_s, ldv_i, ldv_l, ldv_r, ldv_s, ldi_i, ldi_s, fK_0, fK_s, gfc_O, fS_0, fS_s, uH_s, uH_n, uH_u, tl_s, tl_n, b1_0, b1_1, ite_true, ite_false, if_true, if_false, List.length_nil, List.length_cons, Nat.zero_le, Nat.zero_add, Nat.reduceAdd, Nat.reduceLeDiff, Nat.reduceLT, Nat.reduceEqDiff, Nat.reduceMul, Nat.add_left_cancel_iff, not_false_eq_true, hq', lnc_I, hc, pn]
    rw [uH_id h h56]
  | succ d ih =>
    intro i h hi h39 hq' h56
    have hc : ¬ Int32.ofNat n ≤ nI i := nI_ge (a := i) (b := n) (by omega) (by omega)
    rw [qM_lay_2]
    simp only [w0, w1, w2i, w2r, w3, w4, w5_0, w5_1, w5_2, w5_3, w5_4, w5_5, w5_6, w5_7, w5_8, w6_0, w6_1, w7_0, w7_1, w7_2, w7_3, w7_4, w7_5, w8_0, w8_1, w9_0, w9_1, w9_2, w10_0, w10_1, w10_2, w10_3, w10_4, w10_5, w11, w12_0, w12_1, w12_2, w12_3, w12_4, w12_5, w13_0, w13_1, w13_2, w13_3, w13_4, w13_5, w14, w15i, w15r, w16, w17, w18, w19i, w19z, w19l, w20, w21, w22, w23, w24, w25, w26, w27, w28_1, w28_2, w28_3, w28_4, w28_5, w28_6, w29, w30i, w30z, w31, w32, w33, w34, w35, w36, w37_1, w37_2, w37_3, w37_4, w37_5, w37_6, isO_O, set1_0, set1_1i, set1_1r, set1_1n, set1_1l, set1_s, set2_0, set2_1i, set2_1r, set2_1n, set2_1l, set2_s, ldv_i, ldv_l, ldv_r, ldv_s, ldi_i, ldi_s, fK_0, fK_s, gfc_O, fS_0, fS_s, uH_s, uH_n, uH_u, tl_s, tl_n, b1_0, b1_1, ite_true, ite_false, if_true, if_false, List.length_nil, List.length_cons, Nat.zero_le, Nat.zero_add, Nat.reduceAdd, Nat.reduceLeDiff, Nat.reduceLT, Nat.reduceEqDiff, Nat.reduceMul, Nat.add_left_cancel_iff, not_false_eq_true, h39, hq', h56, lnc_I, hc, jM_lay_2, nI_1, nI_add, rIc_n (show i < n by omega) (show n < 2 ^ 31 by omega), wIc_n (show p + i < 99 by omega) (show 99 < 2 ^ 31 by decide), fb_put_succ]
    rw [ih (i + 1) _ (by omega) (by rw [uH_n _ _ (by omega)]; exact h39) (by rw [uH_n _ _ hq]; exact hq') (by rw [uH_s]), uH_u]
theorem M_lay (hq : ¬ q = 56) (hp : p + n ≤ 99) (h39 : h 39 = mO ho pu ye bo ta ax wr be kn pr im) (hq' : h q = aI n f) (h56 : h 56 = aI 99 ig) : WpM 130 [.ref 39, .ref q, .int (nI p)] h Q = Q (some (.int (nI (p + n)))) (uH h 56 (aI 99 (fb_put ig f p n))) := by
  rw [eM_lay]
  simp only [qM_lay_0, w0, w1, w2i, w2r, w3, w4, w5_0, w5_1, w5_2, w5_3, w5_4, w5_5, w5_6, w5_7, w5_8, w6_0, w6_1, w7_0, w7_1, w7_2, w7_3, w7_4, w7_5, w8_0, w8_1, w9_0, w9_1, w9_2, w10_0, w10_1, w10_2, w10_3, w10_4, w10_5, w11, w12_0, w12_1, w12_2, w12_3, w12_4, w12_5, w13_0, w13_1, w13_2, w13_3, w13_4, w13_5, w14, w15i, w15r, w16, w17, w18, w19i, w19z, w19l, w20, w21, w22, w23, w24, w25, w26, w27, w28_1, w28_2, w28_3, w28_4, w28_5, w28_6, w29, w30i, w30z, w31, w32, w33, w34, w35, w36, w37_1, w37_2, w37_3, w37_4, w37_5, w37_6, isO_O, set1_0, set1_1i, set1_1r, set1_1n, set1_1l, set1_s, set2_0, set2_1i, set2_1r, set2_1n, set2_1l, set2_s, ldv_i, ldv_l, ldv_r, ldv_s, ldi_i, ldi_s, fK_0, fK_s, gfc_O, fS_0, fS_s, uH_s, uH_n, uH_u, tl_s, tl_n, b1_0, b1_1, ite_true, ite_false, if_true, if_false, List.length_nil, List.length_cons, Nat.zero_le, Nat.zero_add, Nat.reduceAdd, Nat.reduceLeDiff, Nat.reduceLT, Nat.reduceEqDiff, Nat.reduceMul, Nat.add_left_cancel_iff, not_false_eq_true]
  exact M_lay_loop hq hp n 0 h (by omega) h39 hq' (by rw [fb_put_0]; exact h56)
theorem M_gives_loop (hq : ¬ q = 56) (hq39 : ¬ q = 39) (hp : p + n ≤ 99) : ∀ (d i : Nat) (h : AH), i + d = n → h 39 = mO ho pu ye bo ta ax wr be kn pr im → h q = aI n (fa_fill (fun k => ig (p + k)) f i) → h 56 = aI 99 ig → Wp none 131 qM_gives_2 [some (.ref 39), some (.int (nI p)), some (.ref q), some (.int (nI i))] [] h Q = Q (some (.int (nI (p + n)))) (uH h q (aI n (fa_fill (fun k => ig (p + k)) f n))) := by
  have pn : nI p + Int32.ofNat n = nI (p + n) := nI_add p n
  intro d
  induction d with
  | zero =>
    intro i h hi h39 hq' h56
    have e : i = n := by omega
    subst e
    have hc : Int32.ofNat i ≤ nI i := nI_le (Nat.le_refl i) (by omega)
    simp only [qM_gives_2, qM_gives_25, jM_gives_25, w0, w1, w2i, w2r, w3, w4, w5_0, w5_1, w5_2, w5_3, w5_4, w5_5, w5_6, w5_7, w5_8, w6_0, w6_1, w7_0, w7_1, w7_2, w7_3, w7_4, w7_5, w8_0, w8_1, w9_0, w9_1, w9_2, w10_0, w10_1, w10_2, w10_3, w10_4, w10_5, w11, w12_0, w12_1, w12_2, w12_3, w12_4, w12_5, w13_0, w13_1, w13_2, w13_3, w13_4, w13_5, w14, w15i, w15r, w16, w17, w18, w19i, w19z, w19l, w20, w21, w22, w23, w24, w25, w26, w27, w28_1, w28_2, w28_3, w28_4, w28_5, w28_6, w29, w30i, w30z, w31, w32, w33, w34, w35, w36, w37_1, w37_2, w37_3, w37_4, w37_5, w37_6, isO_O, set1_0, set1_1i, set1_1r, set1_1n, set1_1l, set1_s, set2_0, set2_1i, set2_1r, set2_1n, set2_1l, set2_s, ldv_i, ldv_l, ldv_r, ldv_s, ldi_i, ldi_s, fK_0, fK_s, gfc_O, fS_0, fS_s, uH_s, uH_n, uH_u, tl_s, tl_n, b1_0, b1_1, ite_true, ite_false, if_true, if_false, List.length_nil, List.length_cons, Nat.zero_le, Nat.zero_add, Nat.reduceAdd, Nat.reduceLeDiff, Nat.reduceLT, Nat.reduceEqDiff, Nat.reduceMul, Nat.add_left_cancel_iff, not_false_eq_true, hq', lnc_I, hc, pn]
    rw [uH_id h hq']
  | succ d ih =>
    intro i h hi h39 hq' h56
    have hc : ¬ Int32.ofNat n ≤ nI i := nI_ge (a := i) (b := n) (by omega) (by omega)
    have fs := fill_s (F := fun k => ig (p + k)) (g := f) (i := i) (y := ig (p + i)) rfl
    rw [qM_gives_2]
    simp only [w0, w1, w2i, w2r, w3, w4, w5_0, w5_1, w5_2, w5_3, w5_4, w5_5, w5_6, w5_7, w5_8, w6_0, w6_1, w7_0, w7_1, w7_2, w7_3, w7_4, w7_5, w8_0, w8_1, w9_0, w9_1, w9_2, w10_0, w10_1, w10_2, w10_3, w10_4, w10_5, w11, w12_0, w12_1, w12_2, w12_3, w12_4, w12_5, w13_0, w13_1, w13_2, w13_3, w13_4, w13_5, w14, w15i, w15r, w16, w17, w18, w19i, w19z, w19l, w20, w21, w22, w23, w24, w25, w26, w27, w28_1, w28_2, w28_3, w28_4, w28_5, w28_6, w29, w30i, w30z, w31, w32, w33, w34, w35, w36, w37_1, w37_2, w37_3, w37_4, w37_5, w37_6, isO_O, set1_0, set1_1i, set1_1r, set1_1n, set1_1l, set1_s, set2_0, set2_1i, set2_1r, set2_1n, set2_1l, set2_s, ldv_i, ldv_l, ldv_r, ldv_s, ldi_i, ldi_s, fK_0, fK_s, gfc_O, fS_0, fS_s, uH_s, uH_n, uH_u, tl_s, tl_n, b1_0, b1_1, ite_true, ite_false, if_true, if_false, List.length_nil, List.length_cons, Nat.zero_le, Nat.zero_add, Nat.reduceAdd, Nat.reduceLeDiff, Nat.reduceLT, Nat.reduceEqDiff, Nat.reduceMul, Nat.add_left_cancel_iff, not_false_eq_true, h39, hq', h56, lnc_I, hc, jM_gives_2, nI_1, nI_add, rIc_n (show p + i < 99 by omega) (show 99 < 2 ^ 31 by decide), wIc_n (show i < n by omega) (show n < 2 ^ 31 by omega), fs]
    rw [ih (i + 1) _ (by omega) (by rw [uH_n _ _ (fun z => hq39 z.symm)]; exact h39) (by rw [uH_s]) (by rw [uH_n _ _ (fun z => hq z.symm)]; exact h56), uH_u]
theorem M_gives (hq : ¬ q = 56) (hq39 : ¬ q = 39) (hp : p + n ≤ 99) (h39 : h 39 = mO ho pu ye bo ta ax wr be kn pr im) (hq' : h q = aI n f) (h56 : h 56 = aI 99 ig) : WpM 131 [.ref 39, .int (nI p), .ref q] h Q = Q (some (.int (nI (p + n)))) (uH h q (aI n (fa_fill (fun k => ig (p + k)) f n))) := by
  rw [eM_gives]
  simp only [qM_gives_0, w0, w1, w2i, w2r, w3, w4, w5_0, w5_1, w5_2, w5_3, w5_4, w5_5, w5_6, w5_7, w5_8, w6_0, w6_1, w7_0, w7_1, w7_2, w7_3, w7_4, w7_5, w8_0, w8_1, w9_0, w9_1, w9_2, w10_0, w10_1, w10_2, w10_3, w10_4, w10_5, w11, w12_0, w12_1, w12_2, w12_3, w12_4, w12_5, w13_0, w13_1, w13_2, w13_3, w13_4, w13_5, w14, w15i, w15r, w16, w17, w18, w19i, w19z, w19l, w20, w21, w22, w23, w24, w25, w26, w27, w28_1, w28_2, w28_3, w28_4, w28_5, w28_6, w29, w30i, w30z, w31, w32, w33, w34, w35, w36, w37_1, w37_2, w37_3, w37_4, w37_5, w37_6, isO_O, set1_0, set1_1i, set1_1r, set1_1n, set1_1l, set1_s, set2_0, set2_1i, set2_1r, set2_1n, set2_1l, set2_s, ldv_i, ldv_l, ldv_r, ldv_s, ldi_i, ldi_s, fK_0, fK_s, gfc_O, fS_0, fS_s, uH_s, uH_n, uH_u, tl_s, tl_n, b1_0, b1_1, ite_true, ite_false, if_true, if_false, List.length_nil, List.length_cons, Nat.zero_le, Nat.zero_add, Nat.reduceAdd, Nat.reduceLeDiff, Nat.reduceLT, Nat.reduceEqDiff, Nat.reduceMul, Nat.add_left_cancel_iff, not_false_eq_true]
  exact M_gives_loop hq hq39 hp n 0 h (by omega) h39 (by rw [fa_fill_0]; exact hq') h56
end IMAGE
theorem Rl_cgM {m : Nat} {pu ye : Int32} {ki as ow ca sh kiM asM owM caM shM kiM' asM' owM' caM' shM' : Nat → Int32} (hR : Rl m pu ye ki as ow ca sh kiM asM owM caM shM) (e1 : ∀ x, x < 8 → kiM' x = kiM x) (e2 : ∀ x, x < 8 → asM' x = asM x) (e3 : ∀ x, x < 8 → owM' x = owM x) (e4 : ∀ x, x < 8 → caM' x = caM x) (e5 : ∀ x, x < 64 → shM' x = shM x) : Rl m pu ye ki as ow ca sh kiM' asM' owM' caM' shM' := by
  obtain ⟨h1, h2, h3, h4, h5, h6⟩ := hR
  refine ⟨h1, h2, h3, h4, fun a ha => ?_, fun a c ha hc => ?_⟩
  · rw [e1 a (by omega), e2 a (by omega), e3 a (by omega), e4 a (by omega)]; exact h5 a ha
  · rw [e5 (8 * a + c) (by omega)]; exact h6 a c ha hc
/-- the image as the reference lays it -/
def igF (ig kiM asM owM caM shM : Nat → Int32) (n pu ye : Int32) : Nat → Int32 := upd (upd (upd (fb_put (fb_put (fb_put (fb_put (fb_put ig kiM 0 8) asM 8 8) owM 16 8) caM 24 8) shM 32 64) 96 n) 97 pu) 98 ye
theorem ig_vals (ig kiM asM owM caM shM : Nat → Int32) (n pu ye : Int32) : (∀ x, x < 8 → igF ig kiM asM owM caM shM n pu ye x = kiM x) ∧ (∀ x, x < 8 → igF ig kiM asM owM caM shM n pu ye (8 + x) = asM x) ∧ (∀ x, x < 8 → igF ig kiM asM owM caM shM n pu ye (16 + x) = owM x) ∧ (∀ x, x < 8 → igF ig kiM asM owM caM shM n pu ye (24 + x) = caM x) ∧ (∀ x, x < 64 → igF ig kiM asM owM caM shM n pu ye (32 + x) = shM x) ∧ igF ig kiM asM owM caM shM n pu ye 96 = n ∧ igF ig kiM asM owM caM shM n pu ye 97 = pu ∧ igF ig kiM asM owM caM shM n pu ye 98 = ye := by
  unfold igF
  refine ⟨fun x hx => ?_, fun x hx => ?_, fun x hx => ?_, fun x hx => ?_, fun x hx => ?_, ?_, ?_, ?_⟩
  · rw [upd_n (by omega), upd_n (by omega), upd_n (by omega), fb_put_out (by omega), fb_put_out (by omega), fb_put_out (by omega), fb_put_out (by omega), fb_put_in (by omega) (by omega)]; rfl
  · rw [upd_n (by omega), upd_n (by omega), upd_n (by omega), fb_put_out (by omega), fb_put_out (by omega), fb_put_out (by omega), fb_put_in (by omega) (by omega)]; congr 1; omega
  · rw [upd_n (by omega), upd_n (by omega), upd_n (by omega), fb_put_out (by omega), fb_put_out (by omega), fb_put_in (by omega) (by omega)]; congr 1; omega
  · rw [upd_n (by omega), upd_n (by omega), upd_n (by omega), fb_put_out (by omega), fb_put_in (by omega) (by omega)]; congr 1; omega
  · rw [upd_n (by omega), upd_n (by omega), upd_n (by omega), fb_put_in (by omega) (by omega)]; congr 1; omega
  · rw [upd_n (by omega), upd_n (by omega), upd_s]
  · rw [upd_n (by omega), upd_s]
  · rw [upd_s]
theorem layE {h : AH} {ho pu ye bo ta ax wr : Int32} {be : Int64} {kn pr im : Int32} {f ig : Nat → Int32} {n p q : Nat} (hq : ¬ q = 56) (hp : p + n ≤ 99) (h39 : h 39 = mO ho pu ye bo ta ax wr be kn pr im) (hq' : h q = aI n f) (h56 : h 56 = aI 99 ig) : ∃ g : AH, (∀ Q, WpM 130 [.ref 39, .ref q, .int (nI p)] h Q = Q (some (.int (nI (p + n)))) g) ∧ g 56 = aI 99 (fb_put ig f p n) ∧ NS [56] h g ∧ (Sh h → Sh g) := ⟨_, fun _ => M_lay hq hp h39 hq' h56, uH_s _ _ _, NS.r.u (by decide), fun hS => sh_56 hS⟩
theorem P_image : Pr 61 132 [] := by
  intro h hR
  have hR0 := hR
  obtain ⟨hS, hV1, hV2, hV3, hV4⟩ := hR
  refine RR_case hR0 ?_
  intro m l ik pu ye ki as ow ca sh ah n2 pu2 ye2 ki2 as2 ow2 ca2 sh2 ah2 n3 pu3 ye3 ki3 as3 ow3 ca3 sh3 ah3 be re op sz ab ak ro pt bt fi si th0 la0 le0 it0 th1 la1 le1 it1 th2 la2 le2 it2 th3 la3 le3 it3 ax wr bm kn pr kiM asM owM caM shM tp rd rs rw su abM kp tn td fs ss ig lns szs its mv c0 c1 c2 c3 c4 c5 c6 c7 c8 c9 c10 c11 c12 c13 c14 c15 c16 c17 c18 c19 c20 c21 c22 c23 c24 c25 c26 c27 c28 c29 c30 c31 c32 c33 c34 c35 c36 c37 c38 c39 c40 c41 c42 c43 c44 c45 c46 c47 c48 c49 c50 c51 c52 c53 c54 c55 c56 c57 c58 c59 c60 hRl hTp
  have pf := fun (Q : Option Value → AH → Prop) => T_takeFrom_8_1 (Q := Q) c8 c1 c9 c2 c10 c3 c11 c4 c12 c5 c13 c6
  obtain ⟨h1, k1, d8, d9, d10', d11, d12, d13, n1, s1⟩ : ∃ g : AH, (∀ Q, WpM 40 [.ref 8, .ref 1] h Q = Q none g) ∧ g 8 = tO 8 (nI m) pu ye ∧ g 9 = aI 8 (va_cpy ki ki2 0 0 8) ∧ g 10 = aI 8 (va_cpy as as2 0 0 8) ∧ g 11 = aI 8 (va_cpy ow ow2 0 0 8) ∧ g 12 = aI 8 (va_cpy ca ca2 0 0 8) ∧ g 13 = aI 64 (va_cpy sh sh2 0 0 64) ∧ NS [8, 9, 10, 11, 12, 13] h g ∧ (Sh h → Sh g) := by
    refine ⟨_, pf, ?_, ?_, ?_, ?_, ?_, ?_, ?_, fun hS => sh_13 (sh_12 (sh_11 (sh_10 (sh_9 (sh_8 hS)))))⟩
    · simp only [uH_s, uH_n, Nat.reduceEqDiff, not_false_eq_true]
    · simp only [uH_s, uH_n, Nat.reduceEqDiff, not_false_eq_true]
    · simp only [uH_s, uH_n, Nat.reduceEqDiff, not_false_eq_true]
    · simp only [uH_s, uH_n, Nat.reduceEqDiff, not_false_eq_true]
    · simp only [uH_s, uH_n, Nat.reduceEqDiff, not_false_eq_true]
    · simp only [uH_s, uH_n, Nat.reduceEqDiff, not_false_eq_true]
    · exact (((((NS.r.u (by decide)).u (by decide)).u (by decide)).u (by decide)).u (by decide)).u (by decide)
  have d0 := (n1 0 (by decide)).trans c0
  obtain ⟨h2, e2, i0, n2, s2⟩ : ∃ g : AH, g = uH h1 0 (aO 4 [.ref 1, .ref 8, .ref 15, .ref 22, .ref 26, .ref 28, .ref 29, .ref 30, .int 1]) ∧ g 0 = aO 4 [.ref 1, .ref 8, .ref 15, .ref 22, .ref 26, .ref 28, .ref 29, .ref 30, .int 1] ∧ NS [0] h1 g ∧ (Sh h1 → Sh g) := ⟨_, rfl, uH_s _ _ _, NS.r.u (by decide), fun hS => sh_0 hS⟩
  have n12 : NS [0, 8, 9, 10, 11, 12, 13] h h2 := (n1.m (by decide)).t (n2.m (by decide))
  have f39 := (n12 39 (by decide)).trans c39
  obtain ⟨g1, l1, j1, m1, t1⟩ := layE (p := 0) (q := 40) (by decide) (by decide) f39 ((n12 40 (by decide)).trans c40) ((n12 56 (by decide)).trans c56)
  have f39_1 := (m1 39 (by decide)).trans f39
  obtain ⟨g2, l2, j2, m2, t2⟩ := layE (p := 8) (q := 41) (by decide) (by decide) f39_1 ((m1 41 (by decide)).trans ((n12 41 (by decide)).trans c41)) j1
  have m12 := m1.t m2
  have f39_2 := (m12 39 (by decide)).trans f39
  obtain ⟨g3, l3, j3, m3, t3⟩ := layE (p := 16) (q := 42) (by decide) (by decide) f39_2 ((m12 42 (by decide)).trans ((n12 42 (by decide)).trans c42)) j2
  have m13 := m12.t m3
  have f39_3 := (m13 39 (by decide)).trans f39
  obtain ⟨g4, l4, j4, m4, t4⟩ := layE (p := 24) (q := 43) (by decide) (by decide) f39_3 ((m13 43 (by decide)).trans ((n12 43 (by decide)).trans c43)) j3
  have m14 := m13.t m4
  have f39_4 := (m14 39 (by decide)).trans f39
  obtain ⟨g5, l5, j5, m5, t5⟩ := layE (p := 32) (q := 44) (by decide) (by decide) f39_4 ((m14 44 (by decide)).trans ((n12 44 (by decide)).trans c44)) j4
  have m15 := m14.t m5
  have f39_5 := (m15 39 (by decide)).trans f39
  simp only [Nat.reduceAdd] at l1 l2 l3 l4 l5
  rw [show nI 0 = 0 from rfl] at l1
  have r1 : nI 96 + 1 = nI 97 := rfl
  have r2 : nI 96 + 2 = nI 98 := rfl
  simp only [eC_image, qC_image_0, jC_image_0, w0, w1, w2i, w2r, w3, w4, w5_0, w5_1, w5_2, w5_3, w5_4, w5_5, w5_6, w5_7, w5_8, w6_0, w6_1, w7_0, w7_1, w7_2, w7_3, w7_4, w7_5, w8_0, w8_1, w9_0, w9_1, w9_2, w10_0, w10_1, w10_2, w10_3, w10_4, w10_5, w11, w12_0, w12_1, w12_2, w12_3, w12_4, w12_5, w13_0, w13_1, w13_2, w13_3, w13_4, w13_5, w14, w15i, w15r, w16, w17, w18, w19i, w19z, w19l, w20, w21, w22, w23, w24, w25, w26, w27, w28_1, w28_2, w28_3, w28_4, w28_5, w28_6, w29, w30i, w30z, w31, w32, w33, w34, w35, w36, w37_1, w37_2, w37_3, w37_4, w37_5, w37_6, isO_O, set1_0, set1_1i, set1_1r, set1_1n, set1_1l, set1_s, set2_0, set2_1i, set2_1r, set2_1n, set2_1l, set2_s, ldv_i, ldv_l, ldv_r, ldv_s, ldi_i, ldi_s, fK_0, fK_s, gfc_O, fS_0, fS_s, uH_s, uH_n, uH_u, tl_s, tl_n, b1_0, b1_1, ite_true, ite_false, if_true, if_false, List.length_nil, List.length_cons, Nat.zero_le, Nat.zero_add, Nat.reduceAdd, Nat.reduceLeDiff, Nat.reduceLT, Nat.reduceEqDiff, Nat.reduceMul, Nat.add_left_cancel_iff, not_false_eq_true, z01, ne_eq, not_true_eq_false, not_false_eq_true, or_self, true_or, or_true, false_or, or_false, i10, Bool.false_eq_true, c0, c8, k1, d0, pfc_O, ← e2]
  simp only [eM_image, qM_image_0, jM_image_0, w0, w1, w2i, w2r, w3, w4, w5_0, w5_1, w5_2, w5_3, w5_4, w5_5, w5_6, w5_7, w5_8, w6_0, w6_1, w7_0, w7_1, w7_2, w7_3, w7_4, w7_5, w8_0, w8_1, w9_0, w9_1, w9_2, w10_0, w10_1, w10_2, w10_3, w10_4, w10_5, w11, w12_0, w12_1, w12_2, w12_3, w12_4, w12_5, w13_0, w13_1, w13_2, w13_3, w13_4, w13_5, w14, w15i, w15r, w16, w17, w18, w19i, w19z, w19l, w20, w21, w22, w23, w24, w25, w26, w27, w28_1, w28_2, w28_3, w28_4, w28_5, w28_6, w29, w30i, w30z, w31, w32, w33, w34, w35, w36, w37_1, w37_2, w37_3, w37_4, w37_5, w37_6, isO_O, set1_0, set1_1i, set1_1r, set1_1n, set1_1l, set1_s, set2_0, set2_1i, set2_1r, set2_1n, set2_1l, set2_s, ldv_i, ldv_l, ldv_r, ldv_s, ldi_i, ldi_s, fK_0, fK_s, gfc_O, fS_0, fS_s, uH_s, uH_n, uH_u, tl_s, tl_n, b1_0, b1_1, ite_true, ite_false, if_true, if_false, List.length_nil, List.length_cons, Nat.zero_le, Nat.zero_add, Nat.reduceAdd, Nat.reduceLeDiff, Nat.reduceLT, Nat.reduceEqDiff, Nat.reduceMul, Nat.add_left_cancel_iff, not_false_eq_true, z01, ne_eq, not_true_eq_false, not_false_eq_true, or_self, true_or, or_true, false_or, or_false, i10, Bool.false_eq_true, f39, f39_1, f39_2, f39_3, f39_4, f39_5, l1, l2, l3, l4, l5, j5, r1, r2, wIc_n (show 96 < 99 by decide) (show 99 < 2 ^ 31 by decide), wIc_n (show 97 < 99 by decide) (show 99 < 2 ^ 31 by decide), wIc_n (show 98 < 99 by decide) (show 99 < 2 ^ 31 by decide), pfc_O]
  have n15 : NS [0, 8, 9, 10, 11, 12, 13, 56] h g5 := (n12.m (by decide)).t (m15.m (by decide))
  obtain ⟨v1, v2, v3, v4, v5, v6, v7, v8⟩ := ig_vals ig kiM asM owM caM shM (nI m) pu ye
  refine ⟨⟨_, rfl, rfl⟩, ?_, V1_ag (fun q hq => ?_) (by rw [uH_s, c39]; rfl) (by rw [uH_s, c39]; rfl) (by rw [uH_s, c39]; rfl) (by rw [uH_s, c39]; rfl) hV1, ?_, V3_ag (fun q hq => ?_) (by rw [uH_s, c39]; rfl) hV3, V4_ag (fun q hq => ?_) hV4⟩
  · exact sh_39 (sh_56 (t5 (t4 (t3 (t2 (t1 (s2 (s1 hS))))))))
  · rw [uH_k hq (by decide), uH_k hq (by decide)]; exact n15 q ((show ∀ q, q ∈ L1 → q ∉ [0, 8, 9, 10, 11, 12, 13, 56] by decide) q hq)
  · have m25 : NS [0, 56] h1 g5 := (n2.m (by decide)).t (m15.m (by decide))
    unfold V2
    simp only [uH_s, uH_n, Nat.reduceEqDiff, not_false_eq_true, (m15 0 (by decide)).trans i0, (m25 8 (by decide)).trans d8, (m25 9 (by decide)).trans d9, (m25 10 (by decide)).trans d10', (m25 11 (by decide)).trans d11, (m25 12 (by decide)).trans d12, (m25 13 (by decide)).trans d13]
    refine ⟨rfl, Or.inr ⟨rfl, m, rfl, v6, v7, v8, ?_⟩⟩
    exact Rl_cgM (Rl_cg hRl (fun _ h => cpy8 h) (fun _ h => cpy8 h) (fun _ h => cpy8 h) (fun _ h => cpy8 h) (fun _ h => cpy64 h)) v1 v2 v3 v4 v5
  · rw [uH_k hq (by decide), uH_k hq (by decide)]; exact n15 q ((show ∀ q, q ∈ L3 → q ∉ [0, 8, 9, 10, 11, 12, 13, 56] by decide) q hq)
  · rw [uH_k hq (by decide), uH_k hq (by decide)]; exact n15 q ((show ∀ q, q ∈ L4 → q ∉ [0, 8, 9, 10, 11, 12, 13, 56] by decide) q hq)
theorem givE {h : AH} {ho pu ye bo ta ax wr : Int32} {be : Int64} {kn pr im : Int32} {f ig : Nat → Int32} {n p q : Nat} (hq : ¬ q = 56) (hq39 : ¬ q = 39) (hp : p + n ≤ 99) (h39 : h 39 = mO ho pu ye bo ta ax wr be kn pr im) (hq' : h q = aI n f) (h56 : h 56 = aI 99 ig) : ∃ g : AH, (∀ Q, WpM 131 [.ref 39, .int (nI p), .ref q] h Q = Q (some (.int (nI (p + n)))) g) ∧ g q = aI n (fa_fill (fun k => ig (p + k)) f n) ∧ NS [q] h g ∧ (Sh h → shp q (aI n (fa_fill (fun k => ig (p + k)) f n)) → Sh g) := ⟨_, fun _ => M_gives hq hq39 hp h39 hq' h56, uH_s _ _ _, NS.r.u (List.mem_cons_self ..), fun hS hc => Sh_u hS hc⟩
theorem P_restore : Pr 62 133 [] := by
  intro h hR
  have hR0 := hR
  obtain ⟨hS, hV1, hV2, hV3, hV4⟩ := hR
  refine RR_case hR0 ?_
  intro m l ik pu ye ki as ow ca sh ah n2 pu2 ye2 ki2 as2 ow2 ca2 sh2 ah2 n3 pu3 ye3 ki3 as3 ow3 ca3 sh3 ah3 be re op sz ab ak ro pt bt fi si th0 la0 le0 it0 th1 la1 le1 it1 th2 la2 le2 it2 th3 la3 le3 it3 ax wr bm kn pr kiM asM owM caM shM tp rd rs rw su abM kp tn td fs ss ig lns szs its mv c0 c1 c2 c3 c4 c5 c6 c7 c8 c9 c10 c11 c12 c13 c14 c15 c16 c17 c18 c19 c20 c21 c22 c23 c24 c25 c26 c27 c28 c29 c30 c31 c32 c33 c34 c35 c36 c37 c38 c39 c40 c41 c42 c43 c44 c45 c46 c47 c48 c49 c50 c51 c52 c53 c54 c55 c56 c57 c58 c59 c60 hRl hTp
  have bad : ∀ z : Int32, (∃ x : Int32, some (Value.int z) = some (.int x) ∧ some (Value.int z) = some (.int x)) ∧ RR h := fun z => ⟨⟨_, rfl, rfl⟩, hR0⟩
  have hV2' := hV2
  unfold V2 at hV2'
  rw [c0, c8, c9, c10, c11, c12, c13, c39, c56] at hV2'
  obtain ⟨-, hV2'⟩ := hV2'
  have hV2' : ik = 0 ∨ (ik = 1 ∧ ∃ m, n2 = nI m ∧ ig 96 = nI m ∧ ig 97 = pu2 ∧ ig 98 = ye2 ∧ Rl m pu2 ye2 ki2 as2 ow2 ca2 sh2 (fun a => ig a) (fun a => ig (8 + a)) (fun a => ig (16 + a)) (fun a => ig (24 + a)) (fun a => ig (32 + a))) := hV2'
  rcases hV2' with rfl | ⟨rfl, m2, rfl, i96, i97, i98, hR2⟩
  · simp only [eC_restore, qC_restore_0, jC_restore_0, qC_restore_10, jC_restore_10, w0, w1, w2i, w2r, w3, w4, w5_0, w5_1, w5_2, w5_3, w5_4, w5_5, w5_6, w5_7, w5_8, w6_0, w6_1, w7_0, w7_1, w7_2, w7_3, w7_4, w7_5, w8_0, w8_1, w9_0, w9_1, w9_2, w10_0, w10_1, w10_2, w10_3, w10_4, w10_5, w11, w12_0, w12_1, w12_2, w12_3, w12_4, w12_5, w13_0, w13_1, w13_2, w13_3, w13_4, w13_5, w14, w15i, w15r, w16, w17, w18, w19i, w19z, w19l, w20, w21, w22, w23, w24, w25, w26, w27, w28_1, w28_2, w28_3, w28_4, w28_5, w28_6, w29, w30i, w30z, w31, w32, w33, w34, w35, w36, w37_1, w37_2, w37_3, w37_4, w37_5, w37_6, isO_O, set1_0, set1_1i, set1_1r, set1_1n, set1_1l, set1_s, set2_0, set2_1i, set2_1r, set2_1n, set2_1l, set2_s, ldv_i, ldv_l, ldv_r, ldv_s, ldi_i, ldi_s, fK_0, fK_s, gfc_O, fS_0, fS_s, uH_s, uH_n, uH_u, tl_s, tl_n, b1_0, b1_1, ite_true, ite_false, if_true, if_false, List.length_nil, List.length_cons, Nat.zero_le, Nat.zero_add, Nat.reduceAdd, Nat.reduceLeDiff, Nat.reduceLT, Nat.reduceEqDiff, Nat.reduceMul, Nat.add_left_cancel_iff, not_false_eq_true, z01, ne_eq, not_true_eq_false, not_false_eq_true, or_self, true_or, or_true, false_or, or_false, i10, Bool.false_eq_true, eM_restore, qM_restore_0, jM_restore_0, qM_restore_10, jM_restore_10, w0, w1, w2i, w2r, w3, w4, w5_0, w5_1, w5_2, w5_3, w5_4, w5_5, w5_6, w5_7, w5_8, w6_0, w6_1, w7_0, w7_1, w7_2, w7_3, w7_4, w7_5, w8_0, w8_1, w9_0, w9_1, w9_2, w10_0, w10_1, w10_2, w10_3, w10_4, w10_5, w11, w12_0, w12_1, w12_2, w12_3, w12_4, w12_5, w13_0, w13_1, w13_2, w13_3, w13_4, w13_5, w14, w15i, w15r, w16, w17, w18, w19i, w19z, w19l, w20, w21, w22, w23, w24, w25, w26, w27, w28_1, w28_2, w28_3, w28_4, w28_5, w28_6, w29, w30i, w30z, w31, w32, w33, w34, w35, w36, w37_1, w37_2, w37_3, w37_4, w37_5, w37_6, isO_O, set1_0, set1_1i, set1_1r, set1_1n, set1_1l, set1_s, set2_0, set2_1i, set2_1r, set2_1n, set2_1l, set2_s, ldv_i, ldv_l, ldv_r, ldv_s, ldi_i, ldi_s, fK_0, fK_s, gfc_O, fS_0, fS_s, uH_s, uH_n, uH_u, tl_s, tl_n, b1_0, b1_1, ite_true, ite_false, if_true, if_false, List.length_nil, List.length_cons, Nat.zero_le, Nat.zero_add, Nat.reduceAdd, Nat.reduceLeDiff, Nat.reduceLT, Nat.reduceEqDiff, Nat.reduceMul, Nat.add_left_cancel_iff, not_false_eq_true, z01, ne_eq, not_true_eq_false, not_false_eq_true, or_self, true_or, or_true, false_or, or_false, i10, Bool.false_eq_true, c0, c39]; exact bad _
  have pf := fun (Q : Option Value → AH → Prop) => T_takeFrom_1_8 (Q := Q) c1 c8 c2 c9 c3 c10 c4 c11 c5 c12 c6 c13
  obtain ⟨h1, k1, d1, d2, d3, d4, d5, d6, n1, s1⟩ : ∃ g : AH, (∀ Q, WpM 40 [.ref 1, .ref 8] h Q = Q none g) ∧ g 1 = tO 1 (nI m2) pu2 ye2 ∧ g 2 = aI 8 (va_cpy ki2 ki 0 0 8) ∧ g 3 = aI 8 (va_cpy as2 as 0 0 8) ∧ g 4 = aI 8 (va_cpy ow2 ow 0 0 8) ∧ g 5 = aI 8 (va_cpy ca2 ca 0 0 8) ∧ g 6 = aI 64 (va_cpy sh2 sh 0 0 64) ∧ NS [1, 2, 3, 4, 5, 6] h g ∧ (Sh h → Sh g) := by
    refine ⟨_, pf, ?_, ?_, ?_, ?_, ?_, ?_, ?_, fun hS => sh_6 (sh_5 (sh_4 (sh_3 (sh_2 (sh_1 hS)))))⟩
    · simp only [uH_s, uH_n, Nat.reduceEqDiff, not_false_eq_true]
    · simp only [uH_s, uH_n, Nat.reduceEqDiff, not_false_eq_true]
    · simp only [uH_s, uH_n, Nat.reduceEqDiff, not_false_eq_true]
    · simp only [uH_s, uH_n, Nat.reduceEqDiff, not_false_eq_true]
    · simp only [uH_s, uH_n, Nat.reduceEqDiff, not_false_eq_true]
    · simp only [uH_s, uH_n, Nat.reduceEqDiff, not_false_eq_true]
    · exact (((((NS.r.u (by decide)).u (by decide)).u (by decide)).u (by decide)).u (by decide)).u (by decide)
  have f39 := (n1 39 (by decide)).trans c39
  have f56 := (n1 56 (by decide)).trans c56
  obtain ⟨g1, l1, j1, m1, t1⟩ := givE (p := 0) (q := 40) (by decide) (by decide) (by decide) f39 ((n1 40 (by decide)).trans c40) f56
  have f39_1 := (m1 39 (by decide)).trans f39
  obtain ⟨g2, l2, j2, m2', t2⟩ := givE (p := 8) (q := 41) (by decide) (by decide) (by decide) f39_1 ((m1 41 (by decide)).trans ((n1 41 (by decide)).trans c41)) ((m1 56 (by decide)).trans f56)
  have m12 : NS [40, 41] h1 g2 := (m1.m (by decide)).t (m2'.m (by decide))
  have f39_2 := (m12 39 (by decide)).trans f39
  obtain ⟨g3, l3, j3, m3, t3⟩ := givE (p := 16) (q := 42) (by decide) (by decide) (by decide) f39_2 ((m12 42 (by decide)).trans ((n1 42 (by decide)).trans c42)) ((m12 56 (by decide)).trans f56)
  have m13 : NS [40, 41, 42] h1 g3 := (m12.m (by decide)).t (m3.m (by decide))
  have f39_3 := (m13 39 (by decide)).trans f39
  obtain ⟨g4, l4, j4, m4, t4⟩ := givE (p := 24) (q := 43) (by decide) (by decide) (by decide) f39_3 ((m13 43 (by decide)).trans ((n1 43 (by decide)).trans c43)) ((m13 56 (by decide)).trans f56)
  have m14 : NS [40, 41, 42, 43] h1 g4 := (m13.m (by decide)).t (m4.m (by decide))
  have f39_4 := (m14 39 (by decide)).trans f39
  obtain ⟨g5, l5, j5, m5, t5⟩ := givE (p := 32) (q := 44) (by decide) (by decide) (by decide) f39_4 ((m14 44 (by decide)).trans ((n1 44 (by decide)).trans c44)) ((m14 56 (by decide)).trans f56)
  have m15 : NS [40, 41, 42, 43, 44] h1 g5 := (m14.m (by decide)).t (m5.m (by decide))
  have f39_5 := (m15 39 (by decide)).trans f39
  have f56_5 := (m15 56 (by decide)).trans f56
  simp only [Nat.reduceAdd] at l1 l2 l3 l4 l5
  rw [show nI 0 = 0 from rfl] at l1
  have r1 : nI 96 + 1 = nI 97 := rfl
  have r2 : nI 96 + 2 = nI 98 := rfl
  have S1 : Sh g1 := t1 (s1 hS) ⟨_, rfl⟩
  have S2 : Sh g2 := t2 S1 ⟨_, rfl⟩
  have S3 : Sh g3 := t3 S2 ⟨_, rfl⟩
  have S4 : Sh g4 := t4 S3 ⟨_, rfl⟩
  have S5 : Sh g5 := t5 S4 ⟨_, rfl⟩
  simp only [eC_restore, qC_restore_0, jC_restore_0, qC_restore_10, jC_restore_10, w0, w1, w2i, w2r, w3, w4, w5_0, w5_1, w5_2, w5_3, w5_4, w5_5, w5_6, w5_7, w5_8, w6_0, w6_1, w7_0, w7_1, w7_2, w7_3, w7_4, w7_5, w8_0, w8_1, w9_0, w9_1, w9_2, w10_0, w10_1, w10_2, w10_3, w10_4, w10_5, w11, w12_0, w12_1, w12_2, w12_3, w12_4, w12_5, w13_0, w13_1, w13_2, w13_3, w13_4, w13_5, w14, w15i, w15r, w16, w17, w18, w19i, w19z, w19l, w20, w21, w22, w23, w24, w25, w26, w27, w28_1, w28_2, w28_3, w28_4, w28_5, w28_6, w29, w30i, w30z, w31, w32, w33, w34, w35, w36, w37_1, w37_2, w37_3, w37_4, w37_5, w37_6, isO_O, set1_0, set1_1i, set1_1r, set1_1n, set1_1l, set1_s, set2_0, set2_1i, set2_1r, set2_1n, set2_1l, set2_s, ldv_i, ldv_l, ldv_r, ldv_s, ldi_i, ldi_s, fK_0, fK_s, gfc_O, fS_0, fS_s, uH_s, uH_n, uH_u, tl_s, tl_n, b1_0, b1_1, ite_true, ite_false, if_true, if_false, List.length_nil, List.length_cons, Nat.zero_le, Nat.zero_add, Nat.reduceAdd, Nat.reduceLeDiff, Nat.reduceLT, Nat.reduceEqDiff, Nat.reduceMul, Nat.add_left_cancel_iff, not_false_eq_true, z01, ne_eq, not_true_eq_false, not_false_eq_true, or_self, true_or, or_true, false_or, or_false, i10, Bool.false_eq_true, c0, c1, k1]
  simp only [eM_restore, qM_restore_0, jM_restore_0, qM_restore_10, jM_restore_10, w0, w1, w2i, w2r, w3, w4, w5_0, w5_1, w5_2, w5_3, w5_4, w5_5, w5_6, w5_7, w5_8, w6_0, w6_1, w7_0, w7_1, w7_2, w7_3, w7_4, w7_5, w8_0, w8_1, w9_0, w9_1, w9_2, w10_0, w10_1, w10_2, w10_3, w10_4, w10_5, w11, w12_0, w12_1, w12_2, w12_3, w12_4, w12_5, w13_0, w13_1, w13_2, w13_3, w13_4, w13_5, w14, w15i, w15r, w16, w17, w18, w19i, w19z, w19l, w20, w21, w22, w23, w24, w25, w26, w27, w28_1, w28_2, w28_3, w28_4, w28_5, w28_6, w29, w30i, w30z, w31, w32, w33, w34, w35, w36, w37_1, w37_2, w37_3, w37_4, w37_5, w37_6, isO_O, set1_0, set1_1i, set1_1r, set1_1n, set1_1l, set1_s, set2_0, set2_1i, set2_1r, set2_1n, set2_1l, set2_s, ldv_i, ldv_l, ldv_r, ldv_s, ldi_i, ldi_s, fK_0, fK_s, gfc_O, fS_0, fS_s, uH_s, uH_n, uH_u, tl_s, tl_n, b1_0, b1_1, ite_true, ite_false, if_true, if_false, List.length_nil, List.length_cons, Nat.zero_le, Nat.zero_add, Nat.reduceAdd, Nat.reduceLeDiff, Nat.reduceLT, Nat.reduceEqDiff, Nat.reduceMul, Nat.add_left_cancel_iff, not_false_eq_true, z01, ne_eq, not_true_eq_false, not_false_eq_true, or_self, true_or, or_true, false_or, or_false, i10, Bool.false_eq_true, f39, f39_1, f39_2, f39_3, f39_4, f39_5, f56_5, l1, l2, l3, l4, l5, r1, r2, rIc_n (show 96 < 99 by decide) (show 99 < 2 ^ 31 by decide), rIc_n (show 97 < 99 by decide) (show 99 < 2 ^ 31 by decide), rIc_n (show 98 < 99 by decide) (show 99 < 2 ^ 31 by decide), pfc_O, i96, i97, i98]
  have hR3 : Rl m2 pu2 ye2 (va_cpy ki2 ki 0 0 8) (va_cpy as2 as 0 0 8) (va_cpy ow2 ow 0 0 8) (va_cpy ca2 ca 0 0 8) (va_cpy sh2 sh 0 0 64) (fa_fill (fun k => ig (0 + k)) kiM 8) (fa_fill (fun k => ig (8 + k)) asM 8) (fa_fill (fun k => ig (16 + k)) owM 8) (fa_fill (fun k => ig (24 + k)) caM 8) (fa_fill (fun k => ig (32 + k)) shM 64) := Rl_cgM (Rl_cg hR2 (fun _ h => cpy8 h) (fun _ h => cpy8 h) (fun _ h => cpy8 h) (fun _ h => cpy8 h) (fun _ h => cpy64 h)) (fun x hx => by rw [fa_fill_in hx, Nat.zero_add]) (fun x hx => by rw [fa_fill_in hx]) (fun x hx => by rw [fa_fill_in hx]) (fun x hx => by rw [fa_fill_in hx]) (fun x hx => by rw [fa_fill_in hx])
  have n15 : NS [1, 2, 3, 4, 5, 6, 40, 41, 42, 43, 44] h g5 := (n1.m (by decide)).t (m15.m (by decide))
  refine ⟨⟨_, rfl, rfl⟩, ?_, V1_mk hR3 ?_ ?_ ?_ ?_ ?_ ?_ (uH_s _ _ _) ?_ ?_ ?_ ?_ ?_, V2_ag (fun q hq => ?_) ?_ hV2, V3_ag (fun q hq => ?_) ?_ hV3, V4_ag (fun q hq => ?_) hV4⟩
  · repeat with_reducible apply sh_39
    exact S5
  · simp only [uH_n, Nat.reduceEqDiff, not_false_eq_true]; exact (m15 1 (by decide)).trans d1
  · simp only [uH_n, Nat.reduceEqDiff, not_false_eq_true]; exact (m15 2 (by decide)).trans d2
  · simp only [uH_n, Nat.reduceEqDiff, not_false_eq_true]; exact (m15 3 (by decide)).trans d3
  · simp only [uH_n, Nat.reduceEqDiff, not_false_eq_true]; exact (m15 4 (by decide)).trans d4
  · simp only [uH_n, Nat.reduceEqDiff, not_false_eq_true]; exact (m15 5 (by decide)).trans d5
  · simp only [uH_n, Nat.reduceEqDiff, not_false_eq_true]; exact (m15 6 (by decide)).trans d6
  · simp only [uH_n, Nat.reduceEqDiff, not_false_eq_true]; exact (m5 40 (by decide)).trans ((m4 40 (by decide)).trans ((m3 40 (by decide)).trans ((m2' 40 (by decide)).trans j1)))
  · simp only [uH_n, Nat.reduceEqDiff, not_false_eq_true]; exact (m5 41 (by decide)).trans ((m4 41 (by decide)).trans ((m3 41 (by decide)).trans j2))
  · simp only [uH_n, Nat.reduceEqDiff, not_false_eq_true]; exact (m5 42 (by decide)).trans ((m4 42 (by decide)).trans j3)
  · simp only [uH_n, Nat.reduceEqDiff, not_false_eq_true]; exact (m5 43 (by decide)).trans j4
  · simp only [uH_n, Nat.reduceEqDiff, not_false_eq_true]; exact j5
  · simp only [uH_k hq (show 39 ∉ L2 by decide)]; exact n15 q ((show ∀ q, q ∈ L2 → q ∉ [1, 2, 3, 4, 5, 6, 40, 41, 42, 43, 44] by decide) q hq)
  · rw [uH_s, c39]; rfl
  · simp only [uH_k hq (show 39 ∉ L3 by decide)]; exact n15 q ((show ∀ q, q ∈ L3 → q ∉ [1, 2, 3, 4, 5, 6, 40, 41, 42, 43, 44] by decide) q hq)
  · rw [uH_s, c39]; rfl
  · simp only [uH_k hq (show 39 ∉ L4 by decide)]; exact n15 q ((show ∀ q, q ∈ L4 → q ∉ [1, 2, 3, 4, 5, 6, 40, 41, 42, 43, 44] by decide) q hq)

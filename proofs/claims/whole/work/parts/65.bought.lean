/-! the pair: bought -/
def kbF (s : Nat) (ki : Nat → Int32) (a : Nat) : Int32 := if s.testBit a = true then 3 else ki a
def asB (s : Nat) (as : Nat → Int32) (v : Int32) (a : Nat) : Int32 := if s.testBit a = true then v else as a
def z64 : Nat → Int64 := fun _ => 0
/-- the told one is reached and costs no more -/
def chk (kiM asM shM : Nat → Int32) (v lim : Int32) (m x s : Nat) : Prop := (rcM kiM shM s m).testBit x = true ∧ (msE z64 z64 kiM asM shM s v 0 m m).1.2 x ≤ lim.toInt64 * (msE z64 z64 kiM asM shM s v 0 m m).2
theorem chk_fin {m s : Nat} {pu ye v : Int32} {ki as ow ca sh kiM asM owM caM shM ki' as' sh' ak : Nat → Int32} {ro rw su : Nat → Int64} (hR : Rl m pu ye ki as ow ca sh kiM asM owM caM shM) (hv : 0 ≤ v.toInt ∧ v.toInt ≤ 99) (e1 : ∀ a, a < m → ki' a = kbF s ki a) (e2 : ∀ a, a < m → as' a = asB s as v a) (e3 : ∀ k, k < 64 → sh' k = sh k) (hak : ∀ f, f < m → ak f = as' f) : Tw ki' sh' kiM shM s m ∧ (∀ k, k < m → ¬ (msE rw su kiM asM shM s v 0 m k).2 = 0) ∧ (msE rw su kiM asM shM s v 0 m m).2 = (slR ro ki' sh' m).2 ∧ (∀ x, x < m → (msE rw su kiM asM shM s v 0 m m).1.2 x = if (rcF ki' sh' m).testBit x = true then raF (slR ro ki' sh' m).1 (rcF ki' sh' m) (opN ki' sh' m) (slR ro ki' sh' m).2 ak x m else 0) := by
  obtain ⟨h1, h2, h3, h4, h5, h6⟩ := hR
  have tw : Tw ki' sh' kiM shM s m := by
    refine ⟨h1, fun a c ha hc => ?_, fun a ha => ?_, fun a c ha hc => ?_⟩
    · rw [e3 (8 * a + c) (by omega), e3 (8 * c + a) (by omega)]; exact h4 a c ha hc
    · rw [e1 a ha, (h5 a ha).1]
      unfold kbF
      by_cases b : s.testBit a = true
      · rw [if_pos b]; exact ⟨fun _ => Or.inr (Or.inr b), fun _ => Or.inr rfl⟩
      · rw [if_neg b]; exact ⟨fun z => z.elim Or.inl (fun y => Or.inr (Or.inl y)), fun z => z.elim Or.inl (fun y => y.elim Or.inr (fun q => absurd q b))⟩
    · rw [e3 (8 * a + c) (by omega), h6 a c ha hc]
  have hbv : ∀ f, f < m → (ki' f = 1 ∨ ki' f = 3) → mfv asM s v 0 f = (as' f).toInt64 ∧ 0 ≤ (as' f).toInt ∧ (as' f).toInt ≤ 99 := fun f hf _ => by
    rw [e2 f hf]
    unfold mfv asB
    rw [if_pos rfl]
    by_cases b : s.testBit f = true
    · rw [if_pos b, if_pos b]; exact ⟨rfl, hv⟩
    · rw [if_neg b, if_neg b, (h5 f hf).2.1]; exact ⟨rfl, (h5 f hf).2.2.2.2.1⟩
  obtain ⟨fd, fe, fb, fv, fr, -⟩ := fin_rent (ro := ro) (rw := rw) (su := su) (ak := ak) tw hbv hak
  exact ⟨tw, fd, fe, fv⟩
theorem chk_eq {m s : Nat} {pu ye v : Int32} {ki as ow ca sh kiM asM owM caM shM : Nat → Int32} {rw su : Nat → Int64} (hR : Rl m pu ye ki as ow ca sh kiM asM owM caM shM) (hv : 0 ≤ v.toInt ∧ v.toInt ≤ 99) : (msE rw su kiM asM shM s v 0 m m).2 = (msE z64 z64 kiM asM shM s v 0 m m).2 ∧ ∀ x, x < m → (msE rw su kiM asM shM s v 0 m m).1.2 x = (msE z64 z64 kiM asM shM s v 0 m m).1.2 x := by
  obtain ⟨-, -, a1, a2⟩ := chk_fin (s := s) (ro := z64) (rw := rw) (su := su) (ki' := kbF s ki) (as' := asB s as v) (sh' := sh) (ak := asB s as v) hR hv (fun _ _ => rfl) (fun _ _ => rfl) (fun _ _ => rfl) (fun _ _ => rfl)
  obtain ⟨-, -, b1, b2⟩ := chk_fin (s := s) (ro := z64) (rw := z64) (su := z64) (ki' := kbF s ki) (as' := asB s as v) (sh' := sh) (ak := asB s as v) hR hv (fun _ _ => rfl) (fun _ _ => rfl) (fun _ _ => rfl) (fun _ _ => rfl)
  exact ⟨a1.trans b1.symm, fun x hx => (a2 x hx).trans (b2 x hx).symm⟩
section CHEAP
variable {h : AH} {Q : Option Value → AH → Prop} {ik pu ye pu3 ye3 v lim : Int32} {ki as ki3 as3 : Nat → Int32} {m s x : Nat}
theorem fill_s {F g : Nat → Int32} {i : Nat} {y : Int32} (e : F i = y) : upd (fa_fill F g i) i y = fa_fill F g (i + 1) := by rw [← e]; exact fa_fill_succ F g i
theorem C_cheap_loop {hx : Int32} (hm : m ≤ 8) (hs : s < 256) : ∀ (d i : Nat) (h : AH) (x6 : Option Value), i + d = m → h 0 = aO 4 [.ref 1, .ref 8, .ref 15, .ref 22, .ref 26, .ref 28, .ref 29, .ref 30, .int ik] → h 1 = tO 1 (nI m) pu ye → h 2 = aI 8 ki → h 3 = aI 8 as → h 15 = tO 15 (nI m) pu3 ye3 → h 16 = aI 8 (fa_fill (kbF s ki) ki3 i) → h 17 = aI 8 (fa_fill (asB s as v) as3 i) → ∃ y6 : Option Value, Wp none 84 qC_isCheapWhenBought_3 [some (.ref 0), some (.int (nI s)), some (.int v), some (.int hx), some (.int lim), some (.int (nI i)), x6] [] h Q = Wp none 84 qC_isCheapWhenBought_87 [some (.ref 0), some (.int (nI s)), some (.int v), some (.int hx), some (.int lim), some (.int (nI m)), y6] [] (uH (uH h 16 (aI 8 (fa_fill (kbF s ki) ki3 m))) 17 (aI 8 (fa_fill (asB s as v) as3 m))) Q := by
  intro d
  induction d with
  | zero =>
    intro i h x6 hi h0 h1 h2 h3 h15 h16 h17
    have e : i = m := by omega
    subst e
    have hc : nI i ≤ nI i := nI_le (Nat.le_refl i) (by omega)
    refine ⟨x6, ?_⟩
    rw [qC_isCheapWhenBought_3]
    simp only [jC_isCheapWhenBought_87, w0, w1, w2i, w2r, w3, w4, w5_0, w5_1, w5_2, w5_3, w5_4, w5_5, w5_6, w5_7, w5_8, w6_0, w6_1, w7_0, w7_1, w7_2, w7_3, w7_4, w7_5, w8_0, w8_1, w9_0, w9_1, w9_2, w10_0, w10_1, w10_2, w10_3, w10_4, w10_5, w11, w12_0, w12_1, w12_2, w12_3, w12_4, w12_5, w13_0, w13_1, w13_2, w13_3, w13_4, w13_5, w14, w15i, w15r, w16, w17, w18, w19i, w19z, w19l, w20, w21, w22, w23, w24, w25, w26, w27, w28_1, w28_2, w28_3, w28_4, w28_5, w28_6, w29, w30i, w30z, w31, w32, w33, w34, w35, w36, w37_1, w37_2, w37_3, w37_4, w37_5, w37_6, isO_O, set1_0, set1_1i, set1_1r, set1_1n, set1_1l, set1_s, set2_0, set2_1i, set2_1r, set2_1n, set2_1l, set2_s, ldv_i, ldv_l, ldv_r, ldv_s, ldi_i, ldi_s, fK_0, fK_s, gfc_O, fS_0, fS_s, uH_s, uH_n, uH_u, tl_s, tl_n, b1_0, b1_1, ite_true, ite_false, if_true, if_false, List.length_nil, List.length_cons, Nat.zero_le, Nat.zero_add, Nat.reduceAdd, Nat.reduceLeDiff, Nat.reduceLT, Nat.reduceEqDiff, Nat.reduceMul, Nat.add_left_cancel_iff, not_false_eq_true, h0, h1, hc]
    rw [uH_id h h16, uH_id h h17]
  | succ d ih =>
    intro i h x6 hi h0 h1 h2 h3 h15 h16 h17
    have hc : ¬ nI m ≤ nI i := nI_ge (by omega) (by omega)
    have i8 : i < 8 := by omega
    by_cases hb : s.testBit i = true
    · have f1 : kbF s ki i = 3 := if_pos hb
      have f2 : asB s as v i = v := if_pos hb
      obtain ⟨y6, ih⟩ := ih (i + 1) (uH (uH h 16 (aI 8 (fa_fill (kbF s ki) ki3 (i + 1)))) 17 (aI 8 (fa_fill (asB s as v) as3 (i + 1)))) (some (.int 1)) (by omega) (by simp only [uH_n, Nat.reduceEqDiff, not_false_eq_true]; exact h0) (by simp only [uH_n, Nat.reduceEqDiff, not_false_eq_true]; exact h1) (by simp only [uH_n, Nat.reduceEqDiff, not_false_eq_true]; exact h2) (by simp only [uH_n, Nat.reduceEqDiff, not_false_eq_true]; exact h3) (by simp only [uH_n, Nat.reduceEqDiff, not_false_eq_true]; exact h15) (by rw [uH_n _ _ (by decide), uH_s]) (by rw [uH_s])
      rw [uH4 _ _ _ _ _ (by decide)] at ih
      refine ⟨y6, ?_⟩
      rw [← ih]
      conv => lhs; rw [qC_isCheapWhenBought_3]
      simp only [qC_isCheapWhenBought_41, jC_isCheapWhenBought_41, qC_isCheapWhenBought_51, jC_isCheapWhenBought_51, qC_isCheapWhenBought_70, jC_isCheapWhenBought_70, qC_isCheapWhenBought_80, jC_isCheapWhenBought_80, jC_isCheapWhenBought_3, w0, w1, w2i, w2r, w3, w4, w5_0, w5_1, w5_2, w5_3, w5_4, w5_5, w5_6, w5_7, w5_8, w6_0, w6_1, w7_0, w7_1, w7_2, w7_3, w7_4, w7_5, w8_0, w8_1, w9_0, w9_1, w9_2, w10_0, w10_1, w10_2, w10_3, w10_4, w10_5, w11, w12_0, w12_1, w12_2, w12_3, w12_4, w12_5, w13_0, w13_1, w13_2, w13_3, w13_4, w13_5, w14, w15i, w15r, w16, w17, w18, w19i, w19z, w19l, w20, w21, w22, w23, w24, w25, w26, w27, w28_1, w28_2, w28_3, w28_4, w28_5, w28_6, w29, w30i, w30z, w31, w32, w33, w34, w35, w36, w37_1, w37_2, w37_3, w37_4, w37_5, w37_6, isO_O, set1_0, set1_1i, set1_1r, set1_1n, set1_1l, set1_s, set2_0, set2_1i, set2_1r, set2_1n, set2_1l, set2_s, ldv_i, ldv_l, ldv_r, ldv_s, ldi_i, ldi_s, fK_0, fK_s, gfc_O, fS_0, fS_s, uH_s, uH_n, uH_u, tl_s, tl_n, b1_0, b1_1, ite_true, ite_false, if_true, if_false, List.length_nil, List.length_cons, Nat.zero_le, Nat.zero_add, Nat.reduceAdd, Nat.reduceLeDiff, Nat.reduceLT, Nat.reduceEqDiff, Nat.reduceMul, Nat.add_left_cancel_iff, not_false_eq_true, i10, Bool.false_eq_true, z01, ne_eq, not_true_eq_false, not_false_eq_true, or_self, true_or, or_true, false_or, or_false, h0, h1, h2, h3, h15, h16, h17, hc, C_isIn, bit1 (show s < 2 ^ 31 by omega) (show i < 31 by omega), hb, rIc_n i8 (show 8 < 2 ^ 31 by decide), wIc_n i8 (show 8 < 2 ^ 31 by decide), fill_s f1, fill_s f2, nI_1]
    · have f1 : kbF s ki i = ki i := if_neg hb
      have f2 : asB s as v i = as i := if_neg hb
      obtain ⟨y6, ih⟩ := ih (i + 1) (uH (uH h 16 (aI 8 (fa_fill (kbF s ki) ki3 (i + 1)))) 17 (aI 8 (fa_fill (asB s as v) as3 (i + 1)))) (some (.int 0)) (by omega) (by simp only [uH_n, Nat.reduceEqDiff, not_false_eq_true]; exact h0) (by simp only [uH_n, Nat.reduceEqDiff, not_false_eq_true]; exact h1) (by simp only [uH_n, Nat.reduceEqDiff, not_false_eq_true]; exact h2) (by simp only [uH_n, Nat.reduceEqDiff, not_false_eq_true]; exact h3) (by simp only [uH_n, Nat.reduceEqDiff, not_false_eq_true]; exact h15) (by rw [uH_n _ _ (by decide), uH_s]) (by rw [uH_s])
      rw [uH4 _ _ _ _ _ (by decide)] at ih
      refine ⟨y6, ?_⟩
      rw [← ih]
      conv => lhs; rw [qC_isCheapWhenBought_3]
      simp only [qC_isCheapWhenBought_41, jC_isCheapWhenBought_41, qC_isCheapWhenBought_51, jC_isCheapWhenBought_51, qC_isCheapWhenBought_70, jC_isCheapWhenBought_70, qC_isCheapWhenBought_80, jC_isCheapWhenBought_80, jC_isCheapWhenBought_3, w0, w1, w2i, w2r, w3, w4, w5_0, w5_1, w5_2, w5_3, w5_4, w5_5, w5_6, w5_7, w5_8, w6_0, w6_1, w7_0, w7_1, w7_2, w7_3, w7_4, w7_5, w8_0, w8_1, w9_0, w9_1, w9_2, w10_0, w10_1, w10_2, w10_3, w10_4, w10_5, w11, w12_0, w12_1, w12_2, w12_3, w12_4, w12_5, w13_0, w13_1, w13_2, w13_3, w13_4, w13_5, w14, w15i, w15r, w16, w17, w18, w19i, w19z, w19l, w20, w21, w22, w23, w24, w25, w26, w27, w28_1, w28_2, w28_3, w28_4, w28_5, w28_6, w29, w30i, w30z, w31, w32, w33, w34, w35, w36, w37_1, w37_2, w37_3, w37_4, w37_5, w37_6, isO_O, set1_0, set1_1i, set1_1r, set1_1n, set1_1l, set1_s, set2_0, set2_1i, set2_1r, set2_1n, set2_1l, set2_s, ldv_i, ldv_l, ldv_r, ldv_s, ldi_i, ldi_s, fK_0, fK_s, gfc_O, fS_0, fS_s, uH_s, uH_n, uH_u, tl_s, tl_n, b1_0, b1_1, ite_true, ite_false, if_true, if_false, List.length_nil, List.length_cons, Nat.zero_le, Nat.zero_add, Nat.reduceAdd, Nat.reduceLeDiff, Nat.reduceLT, Nat.reduceEqDiff, Nat.reduceMul, Nat.add_left_cancel_iff, not_false_eq_true, i10, Bool.false_eq_true, z01, ne_eq, not_true_eq_false, not_false_eq_true, or_self, true_or, or_true, false_or, or_false, h0, h1, h2, h3, h15, h16, h17, hc, C_isIn, bit1 (show s < 2 ^ 31 by omega) (show i < 31 by omega), hb, rIc_n i8 (show 8 < 2 ^ 31 by decide), wIc_n i8 (show 8 < 2 ^ 31 by decide), fill_s f1, fill_s f2, nI_1]
end CHEAP
theorem C_cheap {h : AH} {m s x : Nat} {ik pu ye pu3 ye3 v lim : Int32} {ki as ow ca sh kiM asM owM caM shM ki3 as3 sh3 ak : Nat → Int32} {be : Int64} {re op sz : Int32} {ab ro : Nat → Int64} (hR : Rl m pu ye ki as ow ca sh kiM asM owM caM shM) (hv : 0 ≤ v.toInt ∧ v.toInt ≤ 99) (hs : s < 256) (hx : x < m) (h0 : h 0 = aO 4 [.ref 1, .ref 8, .ref 15, .ref 22, .ref 26, .ref 28, .ref 29, .ref 30, .int ik]) (h1 : h 1 = tO 1 (nI m) pu ye) (h2 : h 2 = aI 8 ki) (h3 : h 3 = aI 8 as) (h15 : h 15 = tO 15 (nI m) pu3 ye3) (h16 : h 16 = aI 8 ki3) (h17 : h 17 = aI 8 as3) (h20 : h 20 = aI 64 sh3) (e20 : ∀ k, k < 64 → sh3 k = sh k) (h22 : h 22 = rO be re op sz) (h23 : h 23 = aJ 8 ab) (h24 : h 24 = aI 8 ak) (h25 : h 25 = aJ 72 ro) : ∃ h' : AH, (∀ Q, WpM 84 [.ref 0, .int (nI s), .int v, .int (nI x), .int lim] h Q = Q (some (.int (@ite Int32 (chk kiM asM shM v lim m x s) (Classical.propDecidable _) 1 0))) h') ∧ (∃ ki' as' : Nat → Int32, h' 16 = aI 8 ki' ∧ h' 17 = aI 8 as') ∧ (∃ (be : Int64) (re op sz : Int32) (ab : Nat → Int64) (ak : Nat → Int32) (ro : Nat → Int64), h' 22 = rO be re op sz ∧ h' 23 = aJ 8 ab ∧ h' 24 = aI 8 ak ∧ h' 25 = aJ 72 ro) ∧ NS [16, 17, 22, 23, 24, 25] h h' ∧ (Sh h → Sh h') := by
  have hm := hR.1
  have x8 : x < 8 := by omega
  obtain ⟨g1, q1, d16, d17, n1, s1⟩ : ∃ q : AH, q = uH (uH h 16 (aI 8 (fa_fill (kbF s ki) ki3 m))) 17 (aI 8 (fa_fill (asB s as v) as3 m)) ∧ q 16 = aI 8 (fa_fill (kbF s ki) ki3 m) ∧ q 17 = aI 8 (fa_fill (asB s as v) as3 m) ∧ NS [16, 17] h q ∧ (Sh h → Sh q) := ⟨_, rfl, by rw [uH_n _ _ (by decide)]; exact uH_s _ _ _, uH_s _ _ _, (NS.r.u (by decide)).u (by decide), fun hS => sh_17 (sh_16 hS)⟩
  obtain ⟨g2, k2, e22, e23, e24, e25, n2, s2⟩ := solC (t := 15) (by decide) ((n1 22 (by decide)).trans h22) ((n1 23 (by decide)).trans h23) ((n1 24 (by decide)).trans h24) ((n1 25 (by decide)).trans h25) ((n1 15 (by decide)).trans h15) d16 d17 ((n1 20 (by decide)).trans h20) hm
  obtain ⟨tw, -, fe, fv⟩ := chk_fin (s := s) (ro := ro) (rw := z64) (su := z64) (ki' := fa_fill (kbF s ki) ki3 m) (as' := fa_fill (asB s as v) as3 m) (sh' := sh3) (ak := va_cpy (fa_fill (asB s as v) as3 m) ak 0 0 8) hR hv (fun a ha => fa_fill_in ha) (fun a ha => fa_fill_in ha) e20 (fun f hf => cpy8 (by omega))
  have hr : rcF (fa_fill (kbF s ki) ki3 m) sh3 m < 256 := rcF_lt _ _ hm
  have rr := Tw_rc tw
  have n12 : NS [16, 17, 22, 23, 24, 25] h g2 := (n1.m (by decide)).t (n2.m (by decide))
  refine ⟨g2, fun Q => ?_, ⟨_, _, (n2 16 (by decide)).trans d16, (n2 17 (by decide)).trans d17⟩, ⟨_, _, _, _, _, _, _, e22, e23, e24, e25⟩, n12, fun z => s2 (s1 z)⟩
  obtain ⟨y6, lp⟩ := C_cheap_loop (Q := Q) (hx := nI x) (lim := lim) hm hs m 0 h none (by omega) h0 h1 h2 h3 h15 (by rw [fa_fill_0]; exact h16) (by rw [fa_fill_0]; exact h17)
  rw [show nI 0 = 0 from rfl, ← q1] at lp
  simp only [eC_isCheapWhenBought, qC_isCheapWhenBought_0, w0, w1, w2i, w2r, w3, w4, w5_0, w5_1, w5_2, w5_3, w5_4, w5_5, w5_6, w5_7, w5_8, w6_0, w6_1, w7_0, w7_1, w7_2, w7_3, w7_4, w7_5, w8_0, w8_1, w9_0, w9_1, w9_2, w10_0, w10_1, w10_2, w10_3, w10_4, w10_5, w11, w12_0, w12_1, w12_2, w12_3, w12_4, w12_5, w13_0, w13_1, w13_2, w13_3, w13_4, w13_5, w14, w15i, w15r, w16, w17, w18, w19i, w19z, w19l, w20, w21, w22, w23, w24, w25, w26, w27, w28_1, w28_2, w28_3, w28_4, w28_5, w28_6, w29, w30i, w30z, w31, w32, w33, w34, w35, w36, w37_1, w37_2, w37_3, w37_4, w37_5, w37_6, isO_O, set1_0, set1_1i, set1_1r, set1_1n, set1_1l, set1_s, set2_0, set2_1i, set2_1r, set2_1n, set2_1l, set2_s, ldv_i, ldv_l, ldv_r, ldv_s, ldi_i, ldi_s, fK_0, fK_s, gfc_O, fS_0, fS_s, uH_s, uH_n, uH_u, tl_s, tl_n, b1_0, b1_1, ite_true, ite_false, if_true, if_false, List.length_nil, List.length_cons, Nat.zero_le, Nat.zero_add, Nat.reduceAdd, Nat.reduceLeDiff, Nat.reduceLT, Nat.reduceEqDiff, Nat.reduceMul, Nat.add_left_cancel_iff, not_false_eq_true, lp]
  rw [qC_isCheapWhenBought_87]
  have d0 := (n1 0 (by decide)).trans h0
  have d22 := (n1 22 (by decide)).trans h22
  have e0 := (n12 0 (by decide)).trans h0
  have ax := abF_val (ab := ab) (ro := (slR ro (fa_fill (kbF s ki) ki3 m) sh3 m).1) (r := rcF (fa_fill (kbF s ki) ki3 m) sh3 m) (o := opN (fa_fill (kbF s ki) ki3 m) sh3 m) (be := (slR ro (fa_fill (kbF s ki) ki3 m) sh3 m).2) (ak := va_cpy (fa_fill (asB s as v) as3 m) ak 0 0 8) (m := m) m x hx
  rw [← fv x hx] at ax
  by_cases hb : (rcF (fa_fill (kbF s ki) ki3 m) sh3 m).testBit x = true
  · by_cases hl : (msE z64 z64 kiM asM shM s v 0 m m).1.2 x ≤ lim.toInt64 * (msE z64 z64 kiM asM shM s v 0 m m).2
    · rw [if_pos ⟨by rw [rr]; exact hb, hl⟩]
      rw [fe] at hl
      have hl2 : ¬ lim.toInt64 * (slR ro (fa_fill (kbF s ki) ki3 m) sh3 m).2 < (msE z64 z64 kiM asM shM s v 0 m m).1.2 x := by rw [fa_le64] at hl; rw [fa_lt64]; omega
      simp only [qC_isCheapWhenBought_138, jC_isCheapWhenBought_138, w0, w1, w2i, w2r, w3, w4, w5_0, w5_1, w5_2, w5_3, w5_4, w5_5, w5_6, w5_7, w5_8, w6_0, w6_1, w7_0, w7_1, w7_2, w7_3, w7_4, w7_5, w8_0, w8_1, w9_0, w9_1, w9_2, w10_0, w10_1, w10_2, w10_3, w10_4, w10_5, w11, w12_0, w12_1, w12_2, w12_3, w12_4, w12_5, w13_0, w13_1, w13_2, w13_3, w13_4, w13_5, w14, w15i, w15r, w16, w17, w18, w19i, w19z, w19l, w20, w21, w22, w23, w24, w25, w26, w27, w28_1, w28_2, w28_3, w28_4, w28_5, w28_6, w29, w30i, w30z, w31, w32, w33, w34, w35, w36, w37_1, w37_2, w37_3, w37_4, w37_5, w37_6, isO_O, set1_0, set1_1i, set1_1r, set1_1n, set1_1l, set1_s, set2_0, set2_1i, set2_1r, set2_1n, set2_1l, set2_s, ldv_i, ldv_l, ldv_r, ldv_s, ldi_i, ldi_s, fK_0, fK_s, gfc_O, fS_0, fS_s, uH_s, uH_n, uH_u, tl_s, tl_n, b1_0, b1_1, ite_true, ite_false, if_true, if_false, List.length_nil, List.length_cons, Nat.zero_le, Nat.zero_add, Nat.reduceAdd, Nat.reduceLeDiff, Nat.reduceLT, Nat.reduceEqDiff, Nat.reduceMul, Nat.add_left_cancel_iff, not_false_eq_true, i10, Bool.false_eq_true, z01, ne_eq, not_true_eq_false, not_false_eq_true, or_self, true_or, or_true, false_or, or_false, d0, d22, k2, e0, e22, e23, R_reaches e22 hr x8, hb, rJc_n x8 (show 8 < 2 ^ 31 by decide), ax, lg_cmp_gt, hl2]
    · rw [if_neg (fun z => hl z.2)]
      rw [fe] at hl
      have hl2 : lim.toInt64 * (slR ro (fa_fill (kbF s ki) ki3 m) sh3 m).2 < (msE z64 z64 kiM asM shM s v 0 m m).1.2 x := by rw [fa_le64] at hl; rw [fa_lt64]; omega
      simp only [qC_isCheapWhenBought_137, jC_isCheapWhenBought_137, qC_isCheapWhenBought_138, jC_isCheapWhenBought_138, w0, w1, w2i, w2r, w3, w4, w5_0, w5_1, w5_2, w5_3, w5_4, w5_5, w5_6, w5_7, w5_8, w6_0, w6_1, w7_0, w7_1, w7_2, w7_3, w7_4, w7_5, w8_0, w8_1, w9_0, w9_1, w9_2, w10_0, w10_1, w10_2, w10_3, w10_4, w10_5, w11, w12_0, w12_1, w12_2, w12_3, w12_4, w12_5, w13_0, w13_1, w13_2, w13_3, w13_4, w13_5, w14, w15i, w15r, w16, w17, w18, w19i, w19z, w19l, w20, w21, w22, w23, w24, w25, w26, w27, w28_1, w28_2, w28_3, w28_4, w28_5, w28_6, w29, w30i, w30z, w31, w32, w33, w34, w35, w36, w37_1, w37_2, w37_3, w37_4, w37_5, w37_6, isO_O, set1_0, set1_1i, set1_1r, set1_1n, set1_1l, set1_s, set2_0, set2_1i, set2_1r, set2_1n, set2_1l, set2_s, ldv_i, ldv_l, ldv_r, ldv_s, ldi_i, ldi_s, fK_0, fK_s, gfc_O, fS_0, fS_s, uH_s, uH_n, uH_u, tl_s, tl_n, b1_0, b1_1, ite_true, ite_false, if_true, if_false, List.length_nil, List.length_cons, Nat.zero_le, Nat.zero_add, Nat.reduceAdd, Nat.reduceLeDiff, Nat.reduceLT, Nat.reduceEqDiff, Nat.reduceMul, Nat.add_left_cancel_iff, not_false_eq_true, i10, Bool.false_eq_true, z01, ne_eq, not_true_eq_false, not_false_eq_true, or_self, true_or, or_true, false_or, or_false, d0, d22, k2, e0, e22, e23, R_reaches e22 hr x8, hb, rJc_n x8 (show 8 < 2 ^ 31 by decide), ax, lg_cmp_gt, hl2]
  · rw [if_neg (fun z => hb (by rw [← rr]; exact z.1))]
    simp only [qC_isCheapWhenBought_137, jC_isCheapWhenBought_137, qC_isCheapWhenBought_138, jC_isCheapWhenBought_138, w0, w1, w2i, w2r, w3, w4, w5_0, w5_1, w5_2, w5_3, w5_4, w5_5, w5_6, w5_7, w5_8, w6_0, w6_1, w7_0, w7_1, w7_2, w7_3, w7_4, w7_5, w8_0, w8_1, w9_0, w9_1, w9_2, w10_0, w10_1, w10_2, w10_3, w10_4, w10_5, w11, w12_0, w12_1, w12_2, w12_3, w12_4, w12_5, w13_0, w13_1, w13_2, w13_3, w13_4, w13_5, w14, w15i, w15r, w16, w17, w18, w19i, w19z, w19l, w20, w21, w22, w23, w24, w25, w26, w27, w28_1, w28_2, w28_3, w28_4, w28_5, w28_6, w29, w30i, w30z, w31, w32, w33, w34, w35, w36, w37_1, w37_2, w37_3, w37_4, w37_5, w37_6, isO_O, set1_0, set1_1i, set1_1r, set1_1n, set1_1l, set1_s, set2_0, set2_1i, set2_1r, set2_1n, set2_1l, set2_s, ldv_i, ldv_l, ldv_r, ldv_s, ldi_i, ldi_s, fK_0, fK_s, gfc_O, fS_0, fS_s, uH_s, uH_n, uH_u, tl_s, tl_n, b1_0, b1_1, ite_true, ite_false, if_true, if_false, List.length_nil, List.length_cons, Nat.zero_le, Nat.zero_add, Nat.reduceAdd, Nat.reduceLeDiff, Nat.reduceLT, Nat.reduceEqDiff, Nat.reduceMul, Nat.add_left_cancel_iff, not_false_eq_true, i10, Bool.false_eq_true, z01, ne_eq, not_true_eq_false, not_false_eq_true, or_self, true_or, or_true, false_or, or_false, d0, d22, k2, e0, e22, R_reaches e22 hr x8, hb]
/-- the best set so far -/
noncomputable def bgt (P : Nat → Prop) (bar : Nat) : Nat → Option Nat
  | 0 => none
  | s + 1 => @ite (Option Nat) ((∀ t, bgt P bar s = some t → popc s < popc t) ∧ s &&& bar = 0 ∧ P s) (Classical.propDecidable _) (some s) (bgt P bar s)
def enO : Option Nat → Int32
  | none => -4
  | some t => nI t
def leO : Option Nat → Int32
  | none => 9
  | some t => nI (popc t)
theorem bgt_lt {P : Nat → Prop} {bar : Nat} : ∀ s t, bgt P bar s = some t → t < s
  | 0, t, h => by rw [bgt] at h; cases h
  | s + 1, t, h => by
    rw [bgt] at h
    by_cases c : (∀ t, bgt P bar s = some t → popc s < popc t) ∧ s &&& bar = 0 ∧ P s
    · rw [if_pos c] at h; cases h; omega
    · rw [if_neg c] at h; have := bgt_lt s t h; omega
theorem nI_n4 {t : Nat} (ht : t < 256) : ¬ nI t = -4 := by
  intro z
  have : (nI t).toInt = (-4 : Int32).toInt := by rw [z]
  rw [nI_toInt (by omega), show (-4 : Int32).toInt = -4 from rfl] at this
  omega
theorem pop_8 : ∀ x, x < 256 → popc x ≤ 8 := by decide +kernel
theorem nI00 : (nI 0 = 0) = True := eq_true rfl
theorem i44 : ((-4 : Int32) = -4) = True := eq_self _
theorem C_bought_loop {m x bar : Nat} {ik pu ye pu3 ye3 v lim : Int32} {ki as ow ca sh kiM asM owM caM shM sh3 : Nat → Int32} (hR : Rl m pu ye ki as ow ca sh kiM asM owM caM shM) (hv : 0 ≤ v.toInt ∧ v.toInt ≤ 99) (hx : x < m) (e20 : ∀ k, k < 64 → sh3 k = sh k) : ∀ (d s : Nat) (h : AH) (ki3 as3 ak : Nat → Int32) (be : Int64) (re op sz : Int32) (ab ro : Nat → Int64) (x7 : Option Value), s + d = 2 ^ m → h 0 = aO 4 [.ref 1, .ref 8, .ref 15, .ref 22, .ref 26, .ref 28, .ref 29, .ref 30, .int ik] → h 1 = tO 1 (nI m) pu ye → h 2 = aI 8 ki → h 3 = aI 8 as → h 15 = tO 15 (nI m) pu3 ye3 → h 16 = aI 8 ki3 → h 17 = aI 8 as3 → h 20 = aI 64 sh3 → h 22 = rO be re op sz → h 23 = aJ 8 ab → h 24 = aI 8 ak → h 25 = aJ 72 ro → ∃ h' : AH, (∀ Q, Wp none 60 qC_bought_72 [some (.ref 0), some (.int (nI x)), some (.int lim), some (.int v), some (.int (nI bar)), some (.int (enO (bgt (chk kiM asM shM v lim m x) bar s))), some (.int (nI s)), x7] [] h Q = Q (some (.int (enO (bgt (chk kiM asM shM v lim m x) bar (2 ^ m))))) h') ∧ NS [16, 17, 22, 23, 24, 25] h h' ∧ (Sh h → Sh h') := by
  have hm := hR.1
  have p2 : 2 ^ m ≤ 256 := Nat.le_trans (Nat.pow_le_pow_right (by decide) hm) (by decide)
  have sl : (1 : Int32) <<< (nI m &&& 31) = nI (2 ^ m) := shl1 m (by omega)
  intro d
  induction d with
  | zero =>
    intro s h ki3 as3 ak be re op sz ab ro x7 hs h0 h1 h2 h3 h15 h16 h17 h20 h22 h23 h24 h25
    have e : s = 2 ^ m := by omega
    subst e
    have hc : nI (2 ^ m) ≤ nI (2 ^ m) := nI_le (Nat.le_refl _) (by omega)
    refine ⟨h, fun Q => ?_, NS.r, fun z => z⟩
    simp only [qC_bought_72, qC_bought_148, jC_bought_148, w0, w1, w2i, w2r, w3, w4, w5_0, w5_1, w5_2, w5_3, w5_4, w5_5, w5_6, w5_7, w5_8, w6_0, w6_1, w7_0, w7_1, w7_2, w7_3, w7_4, w7_5, w8_0, w8_1, w9_0, w9_1, w9_2, w10_0, w10_1, w10_2, w10_3, w10_4, w10_5, w11, w12_0, w12_1, w12_2, w12_3, w12_4, w12_5, w13_0, w13_1, w13_2, w13_3, w13_4, w13_5, w14, w15i, w15r, w16, w17, w18, w19i, w19z, w19l, w20, w21, w22, w23, w24, w25, w26, w27, w28_1, w28_2, w28_3, w28_4, w28_5, w28_6, w29, w30i, w30z, w31, w32, w33, w34, w35, w36, w37_1, w37_2, w37_3, w37_4, w37_5, w37_6, isO_O, set1_0, set1_1i, set1_1r, set1_1n, set1_1l, set1_s, set2_0, set2_1i, set2_1r, set2_1n, set2_1l, set2_s, ldv_i, ldv_l, ldv_r, ldv_s, ldi_i, ldi_s, fK_0, fK_s, gfc_O, fS_0, fS_s, uH_s, uH_n, uH_u, tl_s, tl_n, b1_0, b1_1, ite_true, ite_false, if_true, if_false, List.length_nil, List.length_cons, Nat.zero_le, Nat.zero_add, Nat.reduceAdd, Nat.reduceLeDiff, Nat.reduceLT, Nat.reduceEqDiff, Nat.reduceMul, Nat.add_left_cancel_iff, not_false_eq_true, h0, h1, sl, hc]
  | succ d ih =>
    intro s h ki3 as3 ak be re op sz ab ro x7 hs h0 h1 h2 h3 h15 h16 h17 h20 h22 h23 h24 h25
    have s2 : s < 256 := by omega
    have hc : ¬ nI (2 ^ m) ≤ nI s := nI_ge (by omega) (by omega)
    obtain ⟨h2', kc, ⟨ki', as', d16, d17⟩, ⟨be', re', op', sz', ab', ak', ro', d22, d23, d24, d25⟩, n2, s2'⟩ := C_cheap (lim := lim) hR hv s2 hx h0 h1 h2 h3 h15 h16 h17 h20 e20 h22 h23 h24 h25
    obtain ⟨g1, k1, n1, s1⟩ := ih (s + 1) h ki3 as3 ak be re op sz ab ro (some (.int 0)) (by omega) h0 h1 h2 h3 h15 h16 h17 h20 h22 h23 h24 h25
    obtain ⟨g1b, k1b, n1b, s1b⟩ := ih (s + 1) h ki3 as3 ak be re op sz ab ro (some (.int 1)) (by omega) h0 h1 h2 h3 h15 h16 h17 h20 h22 h23 h24 h25
    obtain ⟨g2, k2, n3, s3⟩ := ih (s + 1) h2' ki' as' ak' be' re' op' sz' ab' ro' (some (.int 1)) (by omega) ((n2 0 (by decide)).trans h0) ((n2 1 (by decide)).trans h1) ((n2 2 (by decide)).trans h2) ((n2 3 (by decide)).trans h3) ((n2 15 (by decide)).trans h15) d16 d17 ((n2 20 (by decide)).trans h20) d22 d23 d24 d25
    by_cases hf : ∀ t, bgt (chk kiM asM shM v lim m x) bar s = some t → popc s < popc t
    rotate_left
    · -- not fewer
      have e : bgt (chk kiM asM shM v lim m x) bar (s + 1) = bgt (chk kiM asM shM v lim m x) bar s := by rw [bgt, if_neg (fun z => hf z.1)]
      rw [e] at k1
      refine ⟨g1, fun Q => ?_, n1, s1⟩
      rw [← k1 Q]
      conv => lhs; rw [qC_bought_72]
      obtain ⟨t, ht, hp⟩ : ∃ t, bgt (chk kiM asM shM v lim m x) bar s = some t ∧ ¬ popc s < popc t := Classical.byContradiction fun z => hf (fun t ht => Classical.byContradiction fun y => z ⟨t, ht, y⟩)
      have t2 : t < 256 := by have := bgt_lt s t ht; omega
      have n4 := nI_n4 t2
      have pc : nI (popc t) ≤ nI (popc s) := nI_le (by omega) (by have := pop_8 s s2; omega)
      rw [ht]
      simp only [qC_bought_110, jC_bought_110, qC_bought_111, jC_bought_111, qC_bought_142, jC_bought_142, jC_bought_72, w0, w1, w2i, w2r, w3, w4, w5_0, w5_1, w5_2, w5_3, w5_4, w5_5, w5_6, w5_7, w5_8, w6_0, w6_1, w7_0, w7_1, w7_2, w7_3, w7_4, w7_5, w8_0, w8_1, w9_0, w9_1, w9_2, w10_0, w10_1, w10_2, w10_3, w10_4, w10_5, w11, w12_0, w12_1, w12_2, w12_3, w12_4, w12_5, w13_0, w13_1, w13_2, w13_3, w13_4, w13_5, w14, w15i, w15r, w16, w17, w18, w19i, w19z, w19l, w20, w21, w22, w23, w24, w25, w26, w27, w28_1, w28_2, w28_3, w28_4, w28_5, w28_6, w29, w30i, w30z, w31, w32, w33, w34, w35, w36, w37_1, w37_2, w37_3, w37_4, w37_5, w37_6, isO_O, set1_0, set1_1i, set1_1r, set1_1n, set1_1l, set1_s, set2_0, set2_1i, set2_1r, set2_1n, set2_1l, set2_s, ldv_i, ldv_l, ldv_r, ldv_s, ldi_i, ldi_s, fK_0, fK_s, gfc_O, fS_0, fS_s, uH_s, uH_n, uH_u, tl_s, tl_n, b1_0, b1_1, ite_true, ite_false, if_true, if_false, List.length_nil, List.length_cons, Nat.zero_le, Nat.zero_add, Nat.reduceAdd, Nat.reduceLeDiff, Nat.reduceLT, Nat.reduceEqDiff, Nat.reduceMul, Nat.add_left_cancel_iff, not_false_eq_true, i10, Bool.false_eq_true, z01, ne_eq, not_true_eq_false, not_false_eq_true, or_self, true_or, or_true, false_or, or_false, h0, h1, sl, hc, enO, n4, J_bitCount s2, J_bitCount t2, pc, nI_1]
    have e15 : ∀ Q, Wp none 60 qC_bought_72 [some (.ref 0), some (.int (nI x)), some (.int lim), some (.int v), some (.int (nI bar)), some (.int (enO (bgt (chk kiM asM shM v lim m x) bar s))), some (.int (nI s)), x7] [] h Q = Wp none 60 qC_bought_111 [some (.ref 0), some (.int (nI x)), some (.int lim), some (.int v), some (.int (nI bar)), some (.int (enO (bgt (chk kiM asM shM v lim m x) bar s))), some (.int (nI s)), x7] [.int 1] h Q := fun Q => by
      conv => lhs; rw [qC_bought_72]
      cases hb : bgt (chk kiM asM shM v lim m x) bar s with
      | none => simp only [qC_bought_106, jC_bought_106, jC_bought_111, w0, w1, w2i, w2r, w3, w4, w5_0, w5_1, w5_2, w5_3, w5_4, w5_5, w5_6, w5_7, w5_8, w6_0, w6_1, w7_0, w7_1, w7_2, w7_3, w7_4, w7_5, w8_0, w8_1, w9_0, w9_1, w9_2, w10_0, w10_1, w10_2, w10_3, w10_4, w10_5, w11, w12_0, w12_1, w12_2, w12_3, w12_4, w12_5, w13_0, w13_1, w13_2, w13_3, w13_4, w13_5, w14, w15i, w15r, w16, w17, w18, w19i, w19z, w19l, w20, w21, w22, w23, w24, w25, w26, w27, w28_1, w28_2, w28_3, w28_4, w28_5, w28_6, w29, w30i, w30z, w31, w32, w33, w34, w35, w36, w37_1, w37_2, w37_3, w37_4, w37_5, w37_6, isO_O, set1_0, set1_1i, set1_1r, set1_1n, set1_1l, set1_s, set2_0, set2_1i, set2_1r, set2_1n, set2_1l, set2_s, ldv_i, ldv_l, ldv_r, ldv_s, ldi_i, ldi_s, fK_0, fK_s, gfc_O, fS_0, fS_s, uH_s, uH_n, uH_u, tl_s, tl_n, b1_0, b1_1, ite_true, ite_false, if_true, if_false, List.length_nil, List.length_cons, Nat.zero_le, Nat.zero_add, Nat.reduceAdd, Nat.reduceLeDiff, Nat.reduceLT, Nat.reduceEqDiff, Nat.reduceMul, Nat.add_left_cancel_iff, not_false_eq_true, i10, Bool.false_eq_true, z01, ne_eq, not_true_eq_false, not_false_eq_true, or_self, true_or, or_true, false_or, or_false, h0, h1, sl, hc, enO, i44]
      | some t =>
        have t2 : t < 256 := by have := bgt_lt s t hb; omega
        have n4 := nI_n4 t2
        have pc : ¬ nI (popc t) ≤ nI (popc s) := nI_ge (hf t hb) (by have := pop_8 t t2; omega)
        simp only [qC_bought_106, jC_bought_106, jC_bought_111, w0, w1, w2i, w2r, w3, w4, w5_0, w5_1, w5_2, w5_3, w5_4, w5_5, w5_6, w5_7, w5_8, w6_0, w6_1, w7_0, w7_1, w7_2, w7_3, w7_4, w7_5, w8_0, w8_1, w9_0, w9_1, w9_2, w10_0, w10_1, w10_2, w10_3, w10_4, w10_5, w11, w12_0, w12_1, w12_2, w12_3, w12_4, w12_5, w13_0, w13_1, w13_2, w13_3, w13_4, w13_5, w14, w15i, w15r, w16, w17, w18, w19i, w19z, w19l, w20, w21, w22, w23, w24, w25, w26, w27, w28_1, w28_2, w28_3, w28_4, w28_5, w28_6, w29, w30i, w30z, w31, w32, w33, w34, w35, w36, w37_1, w37_2, w37_3, w37_4, w37_5, w37_6, isO_O, set1_0, set1_1i, set1_1r, set1_1n, set1_1l, set1_s, set2_0, set2_1i, set2_1r, set2_1n, set2_1l, set2_s, ldv_i, ldv_l, ldv_r, ldv_s, ldi_i, ldi_s, fK_0, fK_s, gfc_O, fS_0, fS_s, uH_s, uH_n, uH_u, tl_s, tl_n, b1_0, b1_1, ite_true, ite_false, if_true, if_false, List.length_nil, List.length_cons, Nat.zero_le, Nat.zero_add, Nat.reduceAdd, Nat.reduceLeDiff, Nat.reduceLT, Nat.reduceEqDiff, Nat.reduceMul, Nat.add_left_cancel_iff, not_false_eq_true, i10, Bool.false_eq_true, z01, ne_eq, not_true_eq_false, not_false_eq_true, or_self, true_or, or_true, false_or, or_false, h0, h1, sl, hc, enO, n4, J_bitCount s2, J_bitCount t2, pc]
    have an : nI s &&& nI bar = nI (s &&& bar) := fa_and s bar
    have az : (nI (s &&& bar) = 0) = (s &&& bar = 0) := nI_z (Nat.lt_of_le_of_lt Nat.and_le_left (by omega))
    by_cases hb : s &&& bar = 0
    rotate_left
    · have e : bgt (chk kiM asM shM v lim m x) bar (s + 1) = bgt (chk kiM asM shM v lim m x) bar s := by rw [bgt, if_neg (fun z => hb z.2.1)]
      rw [e] at k1b
      refine ⟨g1b, fun Q => ?_, n1b, s1b⟩
      rw [← k1b Q, e15 Q, qC_bought_111]
      simp only [qC_bought_142, jC_bought_142, jC_bought_72, w0, w1, w2i, w2r, w3, w4, w5_0, w5_1, w5_2, w5_3, w5_4, w5_5, w5_6, w5_7, w5_8, w6_0, w6_1, w7_0, w7_1, w7_2, w7_3, w7_4, w7_5, w8_0, w8_1, w9_0, w9_1, w9_2, w10_0, w10_1, w10_2, w10_3, w10_4, w10_5, w11, w12_0, w12_1, w12_2, w12_3, w12_4, w12_5, w13_0, w13_1, w13_2, w13_3, w13_4, w13_5, w14, w15i, w15r, w16, w17, w18, w19i, w19z, w19l, w20, w21, w22, w23, w24, w25, w26, w27, w28_1, w28_2, w28_3, w28_4, w28_5, w28_6, w29, w30i, w30z, w31, w32, w33, w34, w35, w36, w37_1, w37_2, w37_3, w37_4, w37_5, w37_6, isO_O, set1_0, set1_1i, set1_1r, set1_1n, set1_1l, set1_s, set2_0, set2_1i, set2_1r, set2_1n, set2_1l, set2_s, ldv_i, ldv_l, ldv_r, ldv_s, ldi_i, ldi_s, fK_0, fK_s, gfc_O, fS_0, fS_s, uH_s, uH_n, uH_u, tl_s, tl_n, b1_0, b1_1, ite_true, ite_false, if_true, if_false, List.length_nil, List.length_cons, Nat.zero_le, Nat.zero_add, Nat.reduceAdd, Nat.reduceLeDiff, Nat.reduceLT, Nat.reduceEqDiff, Nat.reduceMul, Nat.add_left_cancel_iff, not_false_eq_true, i10, Bool.false_eq_true, z01, ne_eq, not_true_eq_false, not_false_eq_true, or_self, true_or, or_true, false_or, or_false, an, az, hb, nI_1]
    by_cases hk : chk kiM asM shM v lim m x s
    · have e : bgt (chk kiM asM shM v lim m x) bar (s + 1) = some s := by rw [bgt, if_pos ⟨hf, hb, hk⟩]
      rw [e] at k2
      refine ⟨g2, fun Q => ?_, n2.t n3, fun z => s3 (s2' z)⟩
      simp only [if_pos hk] at kc
      rw [← k2 Q, e15 Q, qC_bought_111]
      simp only [qC_bought_142, jC_bought_142, jC_bought_72, w0, w1, w2i, w2r, w3, w4, w5_0, w5_1, w5_2, w5_3, w5_4, w5_5, w5_6, w5_7, w5_8, w6_0, w6_1, w7_0, w7_1, w7_2, w7_3, w7_4, w7_5, w8_0, w8_1, w9_0, w9_1, w9_2, w10_0, w10_1, w10_2, w10_3, w10_4, w10_5, w11, w12_0, w12_1, w12_2, w12_3, w12_4, w12_5, w13_0, w13_1, w13_2, w13_3, w13_4, w13_5, w14, w15i, w15r, w16, w17, w18, w19i, w19z, w19l, w20, w21, w22, w23, w24, w25, w26, w27, w28_1, w28_2, w28_3, w28_4, w28_5, w28_6, w29, w30i, w30z, w31, w32, w33, w34, w35, w36, w37_1, w37_2, w37_3, w37_4, w37_5, w37_6, isO_O, set1_0, set1_1i, set1_1r, set1_1n, set1_1l, set1_s, set2_0, set2_1i, set2_1r, set2_1n, set2_1l, set2_s, ldv_i, ldv_l, ldv_r, ldv_s, ldi_i, ldi_s, fK_0, fK_s, gfc_O, fS_0, fS_s, uH_s, uH_n, uH_u, tl_s, tl_n, b1_0, b1_1, ite_true, ite_false, if_true, if_false, List.length_nil, List.length_cons, Nat.zero_le, Nat.zero_add, Nat.reduceAdd, Nat.reduceLeDiff, Nat.reduceLT, Nat.reduceEqDiff, Nat.reduceMul, Nat.add_left_cancel_iff, not_false_eq_true, i10, Bool.false_eq_true, z01, ne_eq, not_true_eq_false, not_false_eq_true, or_self, true_or, or_true, false_or, or_false, an, az, hb, nI00, h0, kc, enO, nI_1]
    · have e : bgt (chk kiM asM shM v lim m x) bar (s + 1) = bgt (chk kiM asM shM v lim m x) bar s := by rw [bgt, if_neg (fun z => hk z.2.2)]
      rw [e] at k2
      refine ⟨g2, fun Q => ?_, n2.t n3, fun z => s3 (s2' z)⟩
      simp only [if_neg hk] at kc
      rw [← k2 Q, e15 Q, qC_bought_111]
      simp only [qC_bought_142, jC_bought_142, jC_bought_72, w0, w1, w2i, w2r, w3, w4, w5_0, w5_1, w5_2, w5_3, w5_4, w5_5, w5_6, w5_7, w5_8, w6_0, w6_1, w7_0, w7_1, w7_2, w7_3, w7_4, w7_5, w8_0, w8_1, w9_0, w9_1, w9_2, w10_0, w10_1, w10_2, w10_3, w10_4, w10_5, w11, w12_0, w12_1, w12_2, w12_3, w12_4, w12_5, w13_0, w13_1, w13_2, w13_3, w13_4, w13_5, w14, w15i, w15r, w16, w17, w18, w19i, w19z, w19l, w20, w21, w22, w23, w24, w25, w26, w27, w28_1, w28_2, w28_3, w28_4, w28_5, w28_6, w29, w30i, w30z, w31, w32, w33, w34, w35, w36, w37_1, w37_2, w37_3, w37_4, w37_5, w37_6, isO_O, set1_0, set1_1i, set1_1r, set1_1n, set1_1l, set1_s, set2_0, set2_1i, set2_1r, set2_1n, set2_1l, set2_s, ldv_i, ldv_l, ldv_r, ldv_s, ldi_i, ldi_s, fK_0, fK_s, gfc_O, fS_0, fS_s, uH_s, uH_n, uH_u, tl_s, tl_n, b1_0, b1_1, ite_true, ite_false, if_true, if_false, List.length_nil, List.length_cons, Nat.zero_le, Nat.zero_add, Nat.reduceAdd, Nat.reduceLeDiff, Nat.reduceLT, Nat.reduceEqDiff, Nat.reduceMul, Nat.add_left_cancel_iff, not_false_eq_true, i10, Bool.false_eq_true, z01, ne_eq, not_true_eq_false, not_false_eq_true, or_self, true_or, or_true, false_or, or_false, an, az, hb, nI00, h0, kc, nI_1]

/-! the pairs: year, near -/
theorem goA_val {sh f ki ca th : Nat → Int32} {b m : Nat} : ∀ n x, x < n → goA sh f ki ca b m th n x = goF sh f ki ca b m x
  | n + 1, x, hx => by
    show upd (goA sh f ki ca b m th n) n (goF sh f ki ca b m n) x = _
    by_cases e : x = n
    · subst e; rw [upd_s]
    · rw [upd_n e]; exact goA_val n x (by omega)
theorem yF_out {sh ah ki ca as : Nat → Int32} {m : Nat} : ∀ n x, n ≤ x → yF sh ah ki ca m as n x = as x
  | 0, _, _ => rfl
  | n + 1, x, hx => by
    have ih := yF_out (sh := sh) (ah := ah) (ki := ki) (ca := ca) (as := as) (m := m) n x (by omega)
    rw [yF]
    by_cases hf : ki n = 1 ∨ ki n = 3
    · rw [if_pos hf]; exact ih
    · rw [if_neg hf, upd_n (by omega)]; exact ih
theorem yF_val {sh ah ki ca as : Nat → Int32} {m : Nat} : ∀ n x, x < n → yF sh ah ki ca m as n x = if ki x = 1 ∨ ki x = 3 then as x else aft sh ah ki ca m x
  | n + 1, x, hx => by
    rw [yF]
    by_cases e : x = n
    · subst e
      by_cases hf : ki x = 1 ∨ ki x = 3
      · rw [if_pos hf, if_pos hf]; exact yF_out x x (Nat.le_refl x)
      · rw [if_neg hf, if_neg hf, upd_s]
    · have ih := yF_val (sh := sh) (ah := ah) (ki := ki) (ca := ca) (as := as) (m := m) n x (by omega)
      by_cases hf : ki n = 1 ∨ ki n = 3
      · rw [if_pos hf]; exact ih
      · rw [if_neg hf, upd_n e]; exact ih
theorem tg_cong {sh sh' f f' : Nat → Int32} {a : Nat} : ∀ n, (∀ c, c < n → sh (8 * a + c) = sh' (8 * a + c) ∧ f c = f' c) → tg sh f a n = tg sh' f' a n
  | 0, _ => rfl
  | n + 1, h => by
    show tg sh f a n + sh (8 * a + n) * f n = tg sh' f' a n + sh' (8 * a + n) * f' n
    rw [tg_cong n (fun c hc => h c (by omega)), (h n (by omega)).1, (h n (by omega)).2]
theorem tg_bd {sh f : Nat → Int32} {m a : Nat} (hv : ShV sh m) (ha : a < 8) (hm : m ≤ 8) (hf : ∀ k, k < m → 0 ≤ (f k).toInt ∧ (f k).toInt ≤ 99) : ∀ n, n ≤ m → 0 ≤ (tg sh f a n).toInt ∧ (tg sh f a n).toInt ≤ 99 * wz sh a n
  | 0, _ => by show (0 : Int) ≤ (0 : Int32).toInt ∧ (0 : Int32).toInt ≤ 99 * (0 : Int); decide
  | n + 1, hn => by
    have ih := tg_bd hv ha hm hf n (by omega)
    have w1 := wz_bd hv ha n (by omega)
    have s := (hv a n ha (by omega)).1
    have q := hf n (by omega)
    have e : wz sh a (n + 1) = wz sh a n + (sh (8 * a + n)).toInt := rfl
    have em : (sh (8 * a + n) * f n).toInt = (sh (8 * a + n)).toInt * (f n).toInt ∧ 0 ≤ (sh (8 * a + n)).toInt * (f n).toInt ∧ (sh (8 * a + n)).toInt * (f n).toInt ≤ 99 * (sh (8 * a + n)).toInt := by
      have c : (sh (8 * a + n)).toInt = 0 ∨ (sh (8 * a + n)).toInt = 1 ∨ (sh (8 * a + n)).toInt = 2 := by omega
      have r : 0 ≤ (sh (8 * a + n)).toInt * (f n).toInt ∧ (sh (8 * a + n)).toInt * (f n).toInt ≤ 99 * (sh (8 * a + n)).toInt := by
        rcases c with c | c | c <;> rw [c] <;> omega
      exact ⟨fb_mulI (by omega) (by omega), r⟩
    show 0 ≤ (tg sh f a n + sh (8 * a + n) * f n).toInt ∧ (tg sh f a n + sh (8 * a + n) * f n).toInt ≤ 99 * wz sh a (n + 1)
    rw [fb_addI (by omega) (by omega), e]
    omega
theorem wt_nn {sh : Nat → Int32} {m a : Nat} (hv : ShV sh m) (ha : a < 8) (hm : m ≤ 8) : 0 ≤ (wt sh a m).toInt ∧ (wt sh a m).toInt ≤ 14 := by
  rw [wt_z hv ha m hm]; exact wz_14 hv ha hm
theorem mean_bd {sh f : Nat → Int32} {m a : Nat} (hv : ShV sh m) (ha : a < 8) (hm : m ≤ 8) (hf : ∀ k, k < m → 0 ≤ (f k).toInt ∧ (f k).toInt ≤ 99) (hw : ¬ wt sh a m = 0) : 0 ≤ (tg sh f a m / wt sh a m).toInt ∧ (tg sh f a m / wt sh a m).toInt ≤ 99 := by
  have w1 := wt_nn hv ha hm
  have t1 := tg_bd hv ha hm hf m (Nat.le_refl m)
  rw [← wt_z hv ha m hm] at t1
  obtain ⟨w, hw1, ew⟩ := i32_lit (n := 14) w1.1 w1.2 (by decide)
  obtain ⟨t, ht1, et⟩ := i32_lit (w := tg sh f a m) (n := 1386) t1.1 (by omega) (by decide)
  rw [ew, et, nI_toInt (by omega), nI_toInt (by omega)] at t1
  have w0' : 0 < w := Nat.pos_of_ne_zero (fun z => hw (by rw [ew, z]; rfl))
  have d9 : t / w ≤ 99 := Nat.div_le_of_le_mul (by rw [Nat.mul_comm]; omega)
  rw [ew, et, pk_div (by omega) w0' (by omega)]
  generalize t / w = zz at d9 ⊢
  rw [nI_toInt (by omega)]
  omega
theorem aft_bd {sh f ki ca : Nat → Int32} {m a : Nat} (hv : ShV sh m) (ha : a < m) (hm : m ≤ 8) (hf : ∀ k, k < m → 0 ≤ (f k).toInt ∧ (f k).toInt ≤ 99) (hc : 0 ≤ (ca a).toInt ∧ (ca a).toInt ≤ 99) : 0 ≤ (aft sh f ki ca m a).toInt ∧ (aft sh f ki ca m a).toInt ≤ 99 := by
  unfold aft
  by_cases hw : wt sh a m = 0
  · rw [if_pos hw]; exact hf a ha
  · have b := mean_bd hv (by omega) hm hf hw
    rw [if_neg hw]
    split
    · split
      · exact hc
      · exact b
    · exact b
theorem aft_cong {sh f f' ki ca : Nat → Int32} {m a : Nat} (ha : a < m) (h : ∀ k, k < m → f k = f' k) : aft sh f ki ca m a = aft sh f' ki ca m a := by
  unfold aft
  rw [h a ha, tg_cong (sh := sh) (sh' := sh) (f := f) (f' := f') (a := a) m (fun c hc => ⟨rfl, h c hc⟩)]
theorem go_eq {sh shM ki kiM ca caM ah f : Nat → Int32} {m x : Nat} (hm : m ≤ 8) (hv : ShV sh m) (hk : ∀ a, a < m → kiM a = ki a) (hc : ∀ a, a < m → caM a = ca a) (hs : ∀ a c, a < m → c < m → shM (8 * a + c) = sh (8 * a + c)) (hf : ∀ a, a < m → f a = ah a) (hx : x < m) : goF shM f kiM caM 0 m x = if ki x = 1 ∨ ki x = 3 then ah x else aft sh ah ki ca m x := by
  have w1 := wt_nn hv (show x < 8 by omega) hm
  unfold goF
  rw [wt_eq hs hx m (Nat.le_refl m), tg_cong (sh := shM) (sh' := sh) (f := f) (f' := ah) (a := x) m (fun c hc => ⟨hs x c hx hc, hf c hc⟩), hk x hx, hc x hx, hf x hx]
  by_cases fx : ki x = 1 ∨ ki x = 3
  · have k2 : ¬ ki x = 2 := by rcases fx with e | e <;> rw [e] <;> decide
    have fx2 : ki x = 1 ∨ ki x = 3 ∨ (0 : Nat).testBit x = true := fx.elim Or.inl (fun e => Or.inr (Or.inl e))
    rw [if_pos fx, if_neg (fun z => k2 z.1), if_pos (Or.inl fx2)]
  · have nf : ¬ (ki x = 1 ∨ ki x = 3 ∨ (0 : Nat).testBit x = true) := by
      rintro (e | e | e)
      · exact fx (Or.inl e)
      · exact fx (Or.inr e)
      · simp at e
    rw [if_neg fx]
    unfold aft
    by_cases hw : wt sh x m = 0
    · rw [if_pos hw, if_neg (fun z => by rw [hw] at z; exact absurd z.2.1 (by decide)), if_pos (Or.inr hw)]
    · have hp : 0 < wt sh x m := by
        rw [fa_lt]
        rw [fa_eq] at hw
        have e0 : (0 : Int32).toInt = 0 := rfl
        omega
      have nn : ¬ ((ki x = 1 ∨ ki x = 3 ∨ (0 : Nat).testBit x = true) ∨ wt sh x m = 0) := fun z => z.elim nf hw
      rw [if_neg hw, if_neg nn]
      by_cases k2 : ki x = 2
      · rw [if_pos k2]
        by_cases cc : ca x < tg sh ah x m / wt sh x m
        · rw [if_pos ⟨k2, hp, cc⟩, if_pos cc]
        · rw [if_neg (fun z => cc z.2.2), if_neg cc]
      · rw [if_neg k2, if_neg (fun z => k2 z.1)]
theorem Rl_as2 {m : Nat} {pu ye ye' : Int32} {ki as ow ca sh kiM asM owM caM shM as' asM' : Nat → Int32} (hR : Rl m pu ye ki as ow ca sh kiM asM owM caM shM) (hy : 0 ≤ ye'.toInt ∧ ye'.toInt ≤ 9999) (e : ∀ x, x < m → asM' x = as' x ∧ 0 ≤ (as' x).toInt ∧ (as' x).toInt ≤ 99) : Rl m pu ye' ki as' ow ca sh kiM asM' owM caM shM := by
  obtain ⟨h1, h2, h3, h4, h5, h6⟩ := hR
  refine ⟨h1, h2, hy, h4, fun a ha => ?_, h6⟩
  obtain ⟨q1, q2, q3, q4, q5, q6⟩ := h5 a ha
  exact ⟨q1, (e a ha).1, q3, q4, (e a ha).2, q6⟩
def ycM (th as : Nat → Int32) : Nat → Int32
  | 0 => 0
  | i + 1 => if th i = as i then ycM th as i else ycM th as i + 1
section YEAR
variable {h : AH} {Q : Option Value → AH → Prop} {ho pu ye bo ta ax wr : Int32} {be : Int64} {kn pr im : Int32} {ki as ca sh th f : Nat → Int32} {m b : Nat}
theorem M_year_loop (hm : m ≤ 8) : ∀ (d i : Nat) (h : AH), i + d = m → h 39 = mO (nI m) pu ye bo ta ax wr be kn pr im → h 41 = aI 8 (fa_fill th as i) → h 52 = aI 8 th → Wp none 123 qM_year_25 [some (.ref 39), some (.int (ycM th as i)), some (.int (nI i))] [] h Q = Wp none 123 qM_year_74 [some (.ref 39), some (.int (ycM th as m)), some (.int (nI m))] [] (uH h 41 (aI 8 (fa_fill th as m))) Q := by
  intro d
  induction d with
  | zero =>
    intro i h hi h39 h41 h52
    have e : i = m := by omega
    subst e
    have hc : nI i ≤ nI i := nI_le (Nat.le_refl i) (by omega)
    rw [qM_year_25]
    simp only [jM_year_74, w0, w1, w2i, w2r, w3, w4, w5_0, w5_1, w5_2, w5_3, w5_4, w5_5, w5_6, w5_7, w5_8, w6_0, w6_1, w7_0, w7_1, w7_2, w7_3, w7_4, w7_5, w8_0, w8_1, w9_0, w9_1, w9_2, w10_0, w10_1, w10_2, w10_3, w10_4, w10_5, w11, w12_0, w12_1, w12_2, w12_3, w12_4, w12_5, w13_0, w13_1, w13_2, w13_3, w13_4, w13_5, w14, w15i, w15r, w16, w17, w18, w19i, w19z, w19l, w20, w21, w22, w23, w24, w25, w26, w27, w28_1, w28_2, w28_3, w28_4, w28_5, w28_6, w29, w30i, w30z, w31, w32, w33, w34, w35, w36, w37_1, w37_2, w37_3, w37_4, w37_5, w37_6, isO_O, set1_0, set1_1i, set1_1r, set1_1n, set1_1l, set1_s, set2_0, set2_1i, set2_1r, set2_1n, set2_1l, set2_s, ldv_i, ldv_l, ldv_r, ldv_s, ldi_i, ldi_s, fK_0, fK_s, gfc_O, fS_0, fS_s, uH_s, uH_n, uH_u, tl_s, tl_n, b1_0, b1_1, ite_true, ite_false, if_true, if_false, List.length_nil, List.length_cons, Nat.zero_le, Nat.zero_add, Nat.reduceAdd, Nat.reduceLeDiff, Nat.reduceLT, Nat.reduceEqDiff, Nat.reduceMul, Nat.add_left_cancel_iff, not_false_eq_true, h39, hc]
    rw [uH_id h h41]
  | succ d ih =>
    intro i h hi h39 h41 h52
    have hc : ¬ nI m ≤ nI i := nI_ge (by omega) (by omega)
    have i8 : i < 8 := by omega
    have ih := fun (Q : Option Value → AH → Prop) => ih (i + 1) (uH h 41 (aI 8 (fa_fill th as (i + 1)))) (by omega) (by rw [uH_n _ _ (by omega)]; exact h39) (by rw [uH_s]) (by rw [uH_n _ _ (by omega)]; exact h52)
    rw [qM_year_25]
    simp only [qM_year_53, jM_year_53, qM_year_54, jM_year_54, jM_year_25, w0, w1, w2i, w2r, w3, w4, w5_0, w5_1, w5_2, w5_3, w5_4, w5_5, w5_6, w5_7, w5_8, w6_0, w6_1, w7_0, w7_1, w7_2, w7_3, w7_4, w7_5, w8_0, w8_1, w9_0, w9_1, w9_2, w10_0, w10_1, w10_2, w10_3, w10_4, w10_5, w11, w12_0, w12_1, w12_2, w12_3, w12_4, w12_5, w13_0, w13_1, w13_2, w13_3, w13_4, w13_5, w14, w15i, w15r, w16, w17, w18, w19i, w19z, w19l, w20, w21, w22, w23, w24, w25, w26, w27, w28_1, w28_2, w28_3, w28_4, w28_5, w28_6, w29, w30i, w30z, w31, w32, w33, w34, w35, w36, w37_1, w37_2, w37_3, w37_4, w37_5, w37_6, isO_O, set1_0, set1_1i, set1_1r, set1_1n, set1_1l, set1_s, set2_0, set2_1i, set2_1r, set2_1n, set2_1l, set2_s, ldv_i, ldv_l, ldv_r, ldv_s, ldi_i, ldi_s, fK_0, fK_s, gfc_O, fS_0, fS_s, uH_s, uH_n, uH_u, tl_s, tl_n, b1_0, b1_1, ite_true, ite_false, if_true, if_false, List.length_nil, List.length_cons, Nat.zero_le, Nat.zero_add, Nat.reduceAdd, Nat.reduceLeDiff, Nat.reduceLT, Nat.reduceEqDiff, Nat.reduceMul, Nat.add_left_cancel_iff, not_false_eq_true, i10, Bool.false_eq_true, z01, ne_eq, not_true_eq_false, not_false_eq_true, or_self, true_or, or_true, false_or, or_false, h39, h41, h52, hc, rIc_n i8 (show 8 < 2 ^ 31 by decide), wIc_n i8 (show 8 < 2 ^ 31 by decide), fa_fill_out (Nat.le_refl i), fa_fill_succ, nI_1, add0]
    by_cases he : th i = as i
    · have e : ycM th as (i + 1) = ycM th as i := by rw [ycM, if_pos he]
      rw [e, uH_u] at ih
      simp only [he, not_true_eq_false, if_false]
      exact ih Q
    · have e : ycM th as (i + 1) = ycM th as i + 1 := by rw [ycM, if_neg he]
      rw [e, uH_u] at ih
      simp only [he, not_false_eq_true, if_true]
      exact ih Q
theorem goM {q : Nat} (hq52 : ¬ q = 52) (h39 : h 39 = mO (nI m) pu ye (nI b) ta ax wr be kn pr im) (h40 : h 40 = aI 8 ki) (h43 : h 43 = aI 8 ca) (h44 : h 44 = aI 64 sh) (hq : h q = aI 8 f) (h52 : h 52 = aI 8 th) (hb : b < 256) (hm : m ≤ 8) : ∃ h' : AH, (∀ Q, WpM 122 [.ref 39, .ref q] h Q = Q none h') ∧ h' 52 = aI 8 (goA sh f ki ca b m th m) ∧ NS [52] h h' ∧ (Sh h → Sh h') := ⟨_, fun Q => M_goesOn hq52 h39 h40 h43 h44 hq h52 hb hm, uH_s _ _ _, NS.r.u (by decide), fun hS => sh_52 hS⟩
end YEAR
theorem yC_eq {sh ah ki ca as th asM : Nat → Int32} {m : Nat} (h1 : ∀ x, x < m → yF sh ah ki ca m as m x = th x) (h2 : ∀ x, x < m → ah x = asM x) : ∀ n, n ≤ m → yC sh ah ki ca m as n = ycM th asM n
  | 0, _ => rfl
  | n + 1, hn => by
    have e : yF sh ah ki ca m as (n + 1) n = th n := by rw [← h1 n (by omega), yF_val (n + 1) n (by omega), yF_val m n (by omega)]
    rw [yC, ycM, e, h2 n (by omega), yC_eq h1 h2 n (by omega)]
theorem P_year : Pr 55 123 [] := by
  intro h hR
  have hR0 := hR
  obtain ⟨hS, hV1, hV2, hV3, hV4⟩ := hR
  refine RR_case hR0 ?_
  intro m l ik pu ye ki as ow ca sh ah n2 pu2 ye2 ki2 as2 ow2 ca2 sh2 ah2 n3 pu3 ye3 ki3 as3 ow3 ca3 sh3 ah3 be re op sz ab ak ro pt bt fi si th0 la0 le0 it0 th1 la1 le1 it1 th2 la2 le2 it2 th3 la3 le3 it3 ax wr bm kn pr kiM asM owM caM shM tp rd rs rw su abM kp tn td fs ss ig lns szs its mv c0 c1 c2 c3 c4 c5 c6 c7 c8 c9 c10 c11 c12 c13 c14 c15 c16 c17 c18 c19 c20 c21 c22 c23 c24 c25 c26 c27 c28 c29 c30 c31 c32 c33 c34 c35 c36 c37 c38 c39 c40 c41 c42 c43 c44 c45 c46 c47 c48 c49 c50 c51 c52 c53 c54 c55 c56 c57 c58 c59 c60 hRl hTp
  have hm : m ≤ 8 := hRl.1
  have bad : ∀ z : Int32, (∃ x : Int32, some (Value.int z) = some (.int x) ∧ some (Value.int z) = some (.int x)) ∧ RR h := fun z => ⟨⟨_, rfl, rfl⟩, hR0⟩
  have hy := hRl.2.2.1
  have z9 : (9999 : Int32).toInt = 9999 := rfl
  by_cases y0 : ye < 9999
  rotate_left
  · have e : ye = 9999 := by
      rw [fa_lt] at y0
      exact (fa_eq _ _).mpr (by omega)
    simp only [eC_year, qC_year_0, jC_year_0, qC_year_16, jC_year_16, w0, w1, w2i, w2r, w3, w4, w5_0, w5_1, w5_2, w5_3, w5_4, w5_5, w5_6, w5_7, w5_8, w6_0, w6_1, w7_0, w7_1, w7_2, w7_3, w7_4, w7_5, w8_0, w8_1, w9_0, w9_1, w9_2, w10_0, w10_1, w10_2, w10_3, w10_4, w10_5, w11, w12_0, w12_1, w12_2, w12_3, w12_4, w12_5, w13_0, w13_1, w13_2, w13_3, w13_4, w13_5, w14, w15i, w15r, w16, w17, w18, w19i, w19z, w19l, w20, w21, w22, w23, w24, w25, w26, w27, w28_1, w28_2, w28_3, w28_4, w28_5, w28_6, w29, w30i, w30z, w31, w32, w33, w34, w35, w36, w37_1, w37_2, w37_3, w37_4, w37_5, w37_6, isO_O, set1_0, set1_1i, set1_1r, set1_1n, set1_1l, set1_s, set2_0, set2_1i, set2_1r, set2_1n, set2_1l, set2_s, ldv_i, ldv_l, ldv_r, ldv_s, ldi_i, ldi_s, fK_0, fK_s, gfc_O, fS_0, fS_s, uH_s, uH_n, uH_u, tl_s, tl_n, b1_0, b1_1, ite_true, ite_false, if_true, if_false, List.length_nil, List.length_cons, Nat.zero_le, Nat.zero_add, Nat.reduceAdd, Nat.reduceLeDiff, Nat.reduceLT, Nat.reduceEqDiff, Nat.reduceMul, Nat.add_left_cancel_iff, not_false_eq_true, z01, ne_eq, not_true_eq_false, not_false_eq_true, or_self, true_or, or_true, false_or, or_false, i10, Bool.false_eq_true, c0, c1, y0]
    simp only [eM_year, qM_year_0, w0, w1, w2i, w2r, w3, w4, w5_0, w5_1, w5_2, w5_3, w5_4, w5_5, w5_6, w5_7, w5_8, w6_0, w6_1, w7_0, w7_1, w7_2, w7_3, w7_4, w7_5, w8_0, w8_1, w9_0, w9_1, w9_2, w10_0, w10_1, w10_2, w10_3, w10_4, w10_5, w11, w12_0, w12_1, w12_2, w12_3, w12_4, w12_5, w13_0, w13_1, w13_2, w13_3, w13_4, w13_5, w14, w15i, w15r, w16, w17, w18, w19i, w19z, w19l, w20, w21, w22, w23, w24, w25, w26, w27, w28_1, w28_2, w28_3, w28_4, w28_5, w28_6, w29, w30i, w30z, w31, w32, w33, w34, w35, w36, w37_1, w37_2, w37_3, w37_4, w37_5, w37_6, isO_O, set1_0, set1_1i, set1_1r, set1_1n, set1_1l, set1_s, set2_0, set2_1i, set2_1r, set2_1n, set2_1l, set2_s, ldv_i, ldv_l, ldv_r, ldv_s, ldi_i, ldi_s, fK_0, fK_s, gfc_O, fS_0, fS_s, uH_s, uH_n, uH_u, tl_s, tl_n, b1_0, b1_1, ite_true, ite_false, if_true, if_false, List.length_nil, List.length_cons, Nat.zero_le, Nat.zero_add, Nat.reduceAdd, Nat.reduceLeDiff, Nat.reduceLT, Nat.reduceEqDiff, Nat.reduceMul, Nat.add_left_cancel_iff, not_false_eq_true, i10, Bool.false_eq_true, z01, ne_eq, not_true_eq_false, not_false_eq_true, or_self, true_or, or_true, false_or, or_false, c39, e]
    exact bad _
  have ne9 : ¬ ye = 9999 := fun z => by rw [z] at y0; exact absurd y0 (by decide)
  rw [fa_lt] at y0
  have ey : (ye + 1).toInt = ye.toInt + 1 := by
    rw [fb_addI (by rw [show (1 : Int32).toInt = 1 from rfl]; omega) (by rw [show (1 : Int32).toInt = 1 from rfl]; omega)]; rfl
  have y1 : ye < 9999 := (fa_lt _ _).mpr y0
  obtain ⟨h1, e1, d1, n1, s1⟩ : ∃ g : AH, g = uH h 1 (aO 3 [.int (nI m), .ref 2, .ref 3, .ref 4, .ref 5, .ref 6, .int pu, .int (ye + 1), .ref 7]) ∧ g 1 = tO 1 (nI m) pu (ye + 1) ∧ NS [1] h g ∧ (Sh h → Sh g) := ⟨_, rfl, uH_s _ _ _, NS.r.u (by decide), fun hS => sh_1 hS⟩
  have pf := fun (Q : Option Value → AH → Prop) => T_passYear (Q := Q) (t := 1) d1 ((n1 2 (by decide)).trans c2) ((n1 3 (by decide)).trans c3) ((n1 5 (by decide)).trans c5) ((n1 6 (by decide)).trans c6) ((n1 7 (by decide)).trans c7) hm
  obtain ⟨h2, k2, d3, n2, s2⟩ : ∃ g : AH, (∀ Q, WpM 38 [.ref 1] h1 Q = Q (some (.int (yC sh (va_cpy as ah 0 0 8) ki ca m as m))) g) ∧ g 3 = aI 8 (yF sh (va_cpy as ah 0 0 8) ki ca m as m) ∧ NS [3, 7] h1 g ∧ (Sh h1 → Sh g) := ⟨_, pf, uH_s _ _ _, (NS.r.u (by decide)).u (by decide), fun hS => sh_3 (sh_7 hS)⟩
  have n12 : NS [1, 3, 7] h h2 := (n1.m (by decide)).t (n2.m (by decide))
  have d39 := (n12 39 (by decide)).trans c39
  have d41 := (n12 41 (by decide)).trans c41
  obtain ⟨h3, k3, e52, n3, s3⟩ := goM (q := 41) (by decide) d39 ((n12 40 (by decide)).trans c40) ((n12 43 (by decide)).trans c43) ((n12 44 (by decide)).trans c44) d41 ((n12 52 (by decide)).trans c52) (show 0 < 256 by decide) hm
  have e39 := (n3 39 (by decide)).trans d39
  have e41 := (n3 41 (by decide)).trans d41
  have hgo : ∀ x, x < m → goA shM asM kiM caM 0 m tn m x = yF sh (va_cpy as ah 0 0 8) ki ca m as m x := fun x hx => by
    rw [goA_val m x hx, yF_val m x hx, go_eq (ah := va_cpy as ah 0 0 8) hm hRl.2.2.2.1 (fun a ha => (hRl.2.2.2.2.1 a ha).1) (fun a ha => (hRl.2.2.2.2.1 a ha).2.2.2.1) hRl.2.2.2.2.2 (fun a ha => by rw [cpy8 (by omega)]; exact (hRl.2.2.2.2.1 a ha).2.1) hx, cpy8 (by omega)]
  have hyc : yC sh (va_cpy as ah 0 0 8) ki ca m as m = ycM (goA shM asM kiM caM 0 m tn m) asM m := yC_eq (fun x hx => (hgo x hx).symm) (fun x hx => by rw [cpy8 (by omega)]; exact (hRl.2.2.2.2.1 x hx).2.1.symm) m (Nat.le_refl m)
  have lp := fun (Q : Option Value → AH → Prop) => M_year_loop (Q := Q) (as := asM) hm m 0 h3 (by omega) e39 (by rw [fa_fill_0]; exact e41) e52
  rw [show nI 0 = 0 from rfl, show ycM (goA shM asM kiM caM 0 m tn m) asM 0 = 0 from rfl] at lp
  simp only [eC_year, qC_year_0, jC_year_0, qC_year_16, jC_year_16, w0, w1, w2i, w2r, w3, w4, w5_0, w5_1, w5_2, w5_3, w5_4, w5_5, w5_6, w5_7, w5_8, w6_0, w6_1, w7_0, w7_1, w7_2, w7_3, w7_4, w7_5, w8_0, w8_1, w9_0, w9_1, w9_2, w10_0, w10_1, w10_2, w10_3, w10_4, w10_5, w11, w12_0, w12_1, w12_2, w12_3, w12_4, w12_5, w13_0, w13_1, w13_2, w13_3, w13_4, w13_5, w14, w15i, w15r, w16, w17, w18, w19i, w19z, w19l, w20, w21, w22, w23, w24, w25, w26, w27, w28_1, w28_2, w28_3, w28_4, w28_5, w28_6, w29, w30i, w30z, w31, w32, w33, w34, w35, w36, w37_1, w37_2, w37_3, w37_4, w37_5, w37_6, isO_O, set1_0, set1_1i, set1_1r, set1_1n, set1_1l, set1_s, set2_0, set2_1i, set2_1r, set2_1n, set2_1l, set2_s, ldv_i, ldv_l, ldv_r, ldv_s, ldi_i, ldi_s, fK_0, fK_s, gfc_O, fS_0, fS_s, uH_s, uH_n, uH_u, tl_s, tl_n, b1_0, b1_1, ite_true, ite_false, if_true, if_false, List.length_nil, List.length_cons, Nat.zero_le, Nat.zero_add, Nat.reduceAdd, Nat.reduceLeDiff, Nat.reduceLT, Nat.reduceEqDiff, Nat.reduceMul, Nat.add_left_cancel_iff, not_false_eq_true, z01, ne_eq, not_true_eq_false, not_false_eq_true, or_self, true_or, or_true, false_or, or_false, i10, Bool.false_eq_true, c0, c1, y1, pfc_3, ← e1, d1, k2]
  simp only [eM_year, qM_year_0, jM_year_0, qM_year_13, jM_year_13, qM_year_53, jM_year_53, qM_year_54, jM_year_54, qM_year_74, jM_year_74, w0, w1, w2i, w2r, w3, w4, w5_0, w5_1, w5_2, w5_3, w5_4, w5_5, w5_6, w5_7, w5_8, w6_0, w6_1, w7_0, w7_1, w7_2, w7_3, w7_4, w7_5, w8_0, w8_1, w9_0, w9_1, w9_2, w10_0, w10_1, w10_2, w10_3, w10_4, w10_5, w11, w12_0, w12_1, w12_2, w12_3, w12_4, w12_5, w13_0, w13_1, w13_2, w13_3, w13_4, w13_5, w14, w15i, w15r, w16, w17, w18, w19i, w19z, w19l, w20, w21, w22, w23, w24, w25, w26, w27, w28_1, w28_2, w28_3, w28_4, w28_5, w28_6, w29, w30i, w30z, w31, w32, w33, w34, w35, w36, w37_1, w37_2, w37_3, w37_4, w37_5, w37_6, isO_O, set1_0, set1_1i, set1_1r, set1_1n, set1_1l, set1_s, set2_0, set2_1i, set2_1r, set2_1n, set2_1l, set2_s, ldv_i, ldv_l, ldv_r, ldv_s, ldi_i, ldi_s, fK_0, fK_s, gfc_O, fS_0, fS_s, uH_s, uH_n, uH_u, tl_s, tl_n, b1_0, b1_1, ite_true, ite_false, if_true, if_false, List.length_nil, List.length_cons, Nat.zero_le, Nat.zero_add, Nat.reduceAdd, Nat.reduceLeDiff, Nat.reduceLT, Nat.reduceEqDiff, Nat.reduceMul, Nat.add_left_cancel_iff, not_false_eq_true, i10, Bool.false_eq_true, z01, ne_eq, not_true_eq_false, not_false_eq_true, or_self, true_or, or_true, false_or, or_false, d39, ne9, k3, lp, e39, pfc_O]
  have ha : ∀ k, k < m → 0 ≤ (va_cpy as ah 0 0 8 k).toInt ∧ (va_cpy as ah 0 0 8 k).toInt ≤ 99 := fun k hk => by rw [cpy8 (by omega)]; exact (hRl.2.2.2.2.1 k hk).2.2.2.2.1
  have hR2 : Rl m pu (ye + 1) ki (yF sh (va_cpy as ah 0 0 8) ki ca m as m) ow ca sh kiM (fa_fill (goA shM asM kiM caM 0 m tn m) asM m) owM caM shM := by
    refine Rl_as2 hRl (by omega) (fun x hx => ?_)
    rw [fa_fill_in hx, hgo x hx]
    refine ⟨rfl, ?_⟩
    rw [yF_val m x hx]
    split
    · exact (hRl.2.2.2.2.1 x hx).2.2.2.2.1
    · exact aft_bd hRl.2.2.2.1 hx hm ha (hRl.2.2.2.2.1 x hx).2.2.2.2.2
  have n13 : NS [1, 3, 7, 52] h h3 := (n12.m (by decide)).t (n3.m (by decide))
  refine ⟨⟨_, rfl, by rw [hyc]⟩, ?_, V1_mk hR2 ?_ ?_ ?_ ?_ ?_ ?_ (uH_s _ _ _) ?_ ?_ ?_ ?_ ?_, V2_ag (fun q hq => ?_) ?_ hV2, V3_ag (fun q hq => ?_) ?_ hV3, V4_ag (fun q hq => ?_) hV4⟩
  · exact sh_39 (sh_41 (s3 (s2 (s1 hS))))
  · simp only [uH_n, Nat.reduceEqDiff, not_false_eq_true]; exact (n3 1 (by decide)).trans ((n2 1 (by decide)).trans d1)
  · simp only [uH_n, Nat.reduceEqDiff, not_false_eq_true]; exact (n13 2 (by decide)).trans c2
  · simp only [uH_n, Nat.reduceEqDiff, not_false_eq_true]; exact (n3 3 (by decide)).trans d3
  · simp only [uH_n, Nat.reduceEqDiff, not_false_eq_true]; exact (n13 4 (by decide)).trans c4
  · simp only [uH_n, Nat.reduceEqDiff, not_false_eq_true]; exact (n13 5 (by decide)).trans c5
  · simp only [uH_n, Nat.reduceEqDiff, not_false_eq_true]; exact (n13 6 (by decide)).trans c6
  · simp only [uH_n, Nat.reduceEqDiff, not_false_eq_true]; exact (n13 40 (by decide)).trans c40
  · simp only [uH_s, uH_n, Nat.reduceEqDiff, not_false_eq_true]
  · simp only [uH_n, Nat.reduceEqDiff, not_false_eq_true]; exact (n13 42 (by decide)).trans c42
  · simp only [uH_n, Nat.reduceEqDiff, not_false_eq_true]; exact (n13 43 (by decide)).trans c43
  · simp only [uH_n, Nat.reduceEqDiff, not_false_eq_true]; exact (n13 44 (by decide)).trans c44
  · rw [uH_k hq (by decide), uH_k hq (by decide)]; exact n13 q ((show ∀ q, q ∈ L2 → q ∉ [1, 3, 7, 52] by decide) q hq)
  · rw [uH_s, c39]; rfl
  · rw [uH_k hq (by decide), uH_k hq (by decide)]; exact n13 q ((show ∀ q, q ∈ L3 → q ∉ [1, 3, 7, 52] by decide) q hq)
  · rw [uH_s, c39]; rfl
  · rw [uH_k hq (by decide), uH_k hq (by decide)]; exact n13 q ((show ∀ q, q ∈ L4 → q ∉ [1, 3, 7, 52] by decide) q hq)

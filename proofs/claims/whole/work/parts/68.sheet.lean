/-! the pairs: sheet, drop, item -/
theorem putL_succ (f g : Nat → Int64) (a n : Nat) : vp_updL (fb_put f g a n) (a + n) (g n) = fb_put f g a (n + 1) := by
  funext k
  unfold vp_updL fb_put
  by_cases e : k = a + n
  · subst e; rw [if_pos rfl, if_pos (by omega)]; congr 1; omega
  · rw [if_neg e]
    by_cases c : a ≤ k ∧ k < a + n
    · rw [if_pos c, if_pos (by omega)]
    · rw [if_neg c, if_neg (by omega)]
theorem putL_s {f g : Nat → Int64} {a n : Nat} {y : Int64} (e : g n = y) : vp_updL (fb_put f g a n) (a + n) y = fb_put f g a (n + 1) := by rw [← e]; exact putL_succ f g a n
theorem n20 (k : Nat) : (20 : Int32) * nI k = nI (20 * k) := by rw [show (20 : Int32) = nI 20 from rfl, pk_mul]
theorem shp_o {s : Nat} {th la le : Int32} (hs : s < 4) : shp (31 + 2 * s) (aO 1 [.int th, .int la, .int le, .ref (31 + 2 * s + 1)]) := by
  match s, hs with
  | 0, _ => exact ⟨th, la, le, rfl⟩
  | 1, _ => exact ⟨th, la, le, rfl⟩
  | 2, _ => exact ⟨th, la, le, rfl⟩
  | 3, _ => exact ⟨th, la, le, rfl⟩
theorem shp_i {s : Nat} {it : Nat → Int64} (hs : s < 4) : shp (31 + 2 * s + 1) (aJ 20 it) := by
  match s, hs with
  | 0, _ => exact ⟨it, rfl⟩
  | 1, _ => exact ⟨it, rfl⟩
  | 2, _ => exact ⟨it, rfl⟩
  | 3, _ => exact ⟨it, rfl⟩
theorem V4_all {h : AH} : V4 h ↔ ∀ s, s < 4 → Vs (fI (h (31 + 2 * s)) 0) (fI (h (31 + 2 * s)) 1) (fI (h (31 + 2 * s)) 2) (gJ (h (31 + 2 * s + 1))) (gI (h 57)) (gI (h 58)) (gJ (h 59)) s := by
  unfold V4
  constructor
  · rintro ⟨a, b, c, d⟩ s hs
    match s, hs with
    | 0, _ => exact a
    | 1, _ => exact b
    | 2, _ => exact c
    | 3, _ => exact d
  · intro H
    exact ⟨H 0 (by decide), H 1 (by decide), H 2 (by decide), H 3 (by decide)⟩
theorem sheet_get {h : AH} {s : Nat} {lns szs : Nat → Int32} {its : Nat → Int64} (hS : Sh h) (hV : V4 h) (c57 : h 57 = aI 4 lns) (c58 : h 58 = aI 4 szs) (c59 : h 59 = aJ 80 its) (hs : s < 4) : ∃ (th la le : Int32) (it : Nat → Int64), h (31 + 2 * s) = aO 1 [.int th, .int la, .int le, .ref (31 + 2 * s + 1)] ∧ h (31 + 2 * s + 1) = aJ 20 it ∧ Vs th la le it lns szs its s := by
  have v := V4_all.mp hV s hs
  have key : ∃ (th la le : Int32) (it : Nat → Int64), h (31 + 2 * s) = aO 1 [.int th, .int la, .int le, .ref (31 + 2 * s + 1)] ∧ h (31 + 2 * s + 1) = aJ 20 it := by
    match s, hs with
    | 0, _ => obtain ⟨th, la, le, e⟩ := hS 31 (by decide); obtain ⟨it, e2⟩ := hS 32 (by decide); exact ⟨th, la, le, it, e, e2⟩
    | 1, _ => obtain ⟨th, la, le, e⟩ := hS 33 (by decide); obtain ⟨it, e2⟩ := hS 34 (by decide); exact ⟨th, la, le, it, e, e2⟩
    | 2, _ => obtain ⟨th, la, le, e⟩ := hS 35 (by decide); obtain ⟨it, e2⟩ := hS 36 (by decide); exact ⟨th, la, le, it, e, e2⟩
    | 3, _ => obtain ⟨th, la, le, e⟩ := hS 37 (by decide); obtain ⟨it, e2⟩ := hS 38 (by decide); exact ⟨th, la, le, it, e, e2⟩
  obtain ⟨th, la, le, it, e1, e2⟩ := key
  rw [e1, e2, c57, c58, c59] at v
  exact ⟨th, la, le, it, e1, e2, v⟩
theorem V4_one {h h' : AH} {s : Nat} {lns szs lns' szs' : Nat → Int32} {its its' : Nat → Int64} {th la le : Int32} {it : Nat → Int64} (hs : s < 4) (hV : V4 h) (hN : ∀ j, j < 4 → j ≠ s → h' (31 + 2 * j) = h (31 + 2 * j) ∧ h' (31 + 2 * j + 1) = h (31 + 2 * j + 1)) (c57 : h 57 = aI 4 lns) (c58 : h 58 = aI 4 szs) (c59 : h 59 = aJ 80 its) (d57 : h' 57 = aI 4 lns') (d58 : h' 58 = aI 4 szs') (d59 : h' 59 = aJ 80 its') (e1 : ∀ j, j ≠ s → lns' j = lns j) (e2 : ∀ j, j ≠ s → szs' j = szs j) (e3 : ∀ k, (k < 20 * s ∨ 20 * s + 20 ≤ k) → its' k = its k) (do' : h' (31 + 2 * s) = aO 1 [.int th, .int la, .int le, .ref (31 + 2 * s + 1)]) (di : h' (31 + 2 * s + 1) = aJ 20 it) (new : Vs th la le it lns' szs' its' s) : V4 h' := by
  apply V4_all.mpr
  intro j hj
  rw [d57, d58, d59]
  by_cases e : j = s
  · subst e; rw [do', di]; exact new
  · have v := V4_all.mp hV j hj
    rw [(hN j hj e).1, (hN j hj e).2]
    rw [c57, c58, c59] at v
    obtain ⟨v1, v2, v3, v4⟩ := v
    refine ⟨?_, ?_, v3, fun i hi => ?_⟩
    · show (_ ∧ lns' j = -1) ∨ (_ ∧ lns' j = _ ∧ _)
      rw [e1 j e]; exact v1
    · show szs' j = _
      rw [e2 j e]; exact v2
    · show _ = its' (20 * j + i)
      rw [e3 (20 * j + i) (by omega)]; exact v4 i hi
theorem shR_s {s : Nat} (hs : s < 4) : shR s = some (31 + 2 * s) := if_pos hs
theorem in_n4 {a : Int32} (h0 : ¬ (a < 0 ∨ 4 ≤ a)) : ∃ j, j < 4 ∧ a = nI j := by
  have h1 : ¬ a < 0 := fun z => h0 (Or.inl z)
  have h2 : ¬ (4 : Int32) ≤ a := fun z => h0 (Or.inr z)
  rw [fa_lt] at h1
  rw [fa_le] at h2
  have z : (0 : Int32).toInt = 0 := rfl
  have z4 : (4 : Int32).toInt = 4 := rfl
  refine ⟨a.toInt.toNat, by omega, ?_⟩
  apply Int32.toInt_inj.mp
  rw [nI_toInt (by omega)]
  omega
section SHEET
variable {h : AH} {Q : Option Value → AH → Prop} {th la le : Int32} {it : Nat → Int64} {q : Nat}
theorem pfc_1 {k : Nat} {v0 v1 v2 v3 w : Value} {K : AC → Prop} (hk : k < 4) : pfc (aO 1 [v0, v1, v2, v3]) 1 k w K = K (aO 1 (fS w [v0, v1, v2, v3] k)) := pfc_O hk
theorem S_renew_loop {x1 x2 : Option Value} {a b : Int32} : ∀ (d i : Nat) (h : AH), i + d = 20 → h q = aO 1 [.int th, .int la, .int le, .ref (q + 1)] → h (q + 1) = aJ 20 (fa_fill z64 it i) → Wp none 12 qS_renew_17 [some (.ref q), x1, some (.int b), some (.int (nI i))] [] h Q = Q none (uH h (q + 1) (aJ 20 (fa_fill z64 it 20))) := by
  intro d
  induction d with
  | zero =>
    intro i h hi h0 h1
    have e : i = 20 := by omega
    subst e
    have hc : (20 : Int32) ≤ nI 20 := by decide
    simp only [qS_renew_17, qS_renew_36, jS_renew_36, w0, w1, w2i, w2r, w3, w4, w5_0, w5_1, w5_2, w5_3, w5_4, w5_5, w5_6, w5_7, w5_8, w6_0, w6_1, w7_0, w7_1, w7_2, w7_3, w7_4, w7_5, w8_0, w8_1, w9_0, w9_1, w9_2, w10_0, w10_1, w10_2, w10_3, w10_4, w10_5, w11, w12_0, w12_1, w12_2, w12_3, w12_4, w12_5, w13_0, w13_1, w13_2, w13_3, w13_4, w13_5, w14, w15i, w15r, w16, w17, w18, w19i, w19z, w19l, w20, w21, w22, w23, w24, w25, w26, w27, w28_1, w28_2, w28_3, w28_4, w28_5, w28_6, w29, w30i, w30z, w31, w32, w33, w34, w35, w36, w37_1, w37_2, w37_3, w37_4, w37_5, w37_6, isO_O, set1_0, set1_1i, set1_1r, set1_1n, set1_1l, set1_s, set2_0, set2_1i, set2_1r, set2_1n, set2_1l, set2_s, ldv_i, ldv_l, ldv_r, ldv_s, ldi_i, ldi_s, fK_0, fK_s, gfc_O, fS_0, fS_s, uH_s, uH_n, uH_u, tl_s, tl_n, b1_0, b1_1, ite_true, ite_false, if_true, if_false, List.length_nil, List.length_cons, Nat.zero_le, Nat.zero_add, Nat.reduceAdd, Nat.reduceLeDiff, Nat.reduceLT, Nat.reduceEqDiff, Nat.reduceMul, Nat.add_left_cancel_iff, not_false_eq_true, hc]
    rw [uH_id h h1]
  | succ d ih =>
    intro i h hi h0 h1
    have hc : ¬ (20 : Int32) ≤ nI i := nI_ge (b := 20) (by omega) (by decide)
    have fs : vp_updL (fa_fill z64 it i) i 0 = fa_fill z64 it (i + 1) := fillL_succ z64 it i
    rw [qS_renew_17]
    simp only [w0, w1, w2i, w2r, w3, w4, w5_0, w5_1, w5_2, w5_3, w5_4, w5_5, w5_6, w5_7, w5_8, w6_0, w6_1, w7_0, w7_1, w7_2, w7_3, w7_4, w7_5, w8_0, w8_1, w9_0, w9_1, w9_2, w10_0, w10_1, w10_2, w10_3, w10_4, w10_5, w11, w12_0, w12_1, w12_2, w12_3, w12_4, w12_5, w13_0, w13_1, w13_2, w13_3, w13_4, w13_5, w14, w15i, w15r, w16, w17, w18, w19i, w19z, w19l, w20, w21, w22, w23, w24, w25, w26, w27, w28_1, w28_2, w28_3, w28_4, w28_5, w28_6, w29, w30i, w30z, w31, w32, w33, w34, w35, w36, w37_1, w37_2, w37_3, w37_4, w37_5, w37_6, isO_O, set1_0, set1_1i, set1_1r, set1_1n, set1_1l, set1_s, set2_0, set2_1i, set2_1r, set2_1n, set2_1l, set2_s, ldv_i, ldv_l, ldv_r, ldv_s, ldi_i, ldi_s, fK_0, fK_s, gfc_O, fS_0, fS_s, uH_s, uH_n, uH_u, tl_s, tl_n, b1_0, b1_1, ite_true, ite_false, if_true, if_false, List.length_nil, List.length_cons, Nat.zero_le, Nat.zero_add, Nat.reduceAdd, Nat.reduceLeDiff, Nat.reduceLT, Nat.reduceEqDiff, Nat.reduceMul, Nat.add_left_cancel_iff, not_false_eq_true, h0, h1, hc, jS_renew_17, nI_1, wJc_n (show i < 20 by omega) (show 20 < 2 ^ 31 by decide), fs]
    rw [ih (i + 1) _ (by omega) (by rw [uH_n _ _ (by omega)]; exact h0) (by rw [uH_s]), uH_u]
theorem S_renew {a b : Int32} (h0 : h q = aO 1 [.int th, .int la, .int le, .ref (q + 1)]) (h1 : h (q + 1) = aJ 20 it) : WpM 12 [.ref q, .int a, .int b] h Q = Q none (uH (uH h q (aO 1 [.int 1, .int a, .int b, .ref (q + 1)])) (q + 1) (aJ 20 (fa_fill z64 it 20))) := by
  rw [eS_renew]
  simp only [qS_renew_0, w0, w1, w2i, w2r, w3, w4, w5_0, w5_1, w5_2, w5_3, w5_4, w5_5, w5_6, w5_7, w5_8, w6_0, w6_1, w7_0, w7_1, w7_2, w7_3, w7_4, w7_5, w8_0, w8_1, w9_0, w9_1, w9_2, w10_0, w10_1, w10_2, w10_3, w10_4, w10_5, w11, w12_0, w12_1, w12_2, w12_3, w12_4, w12_5, w13_0, w13_1, w13_2, w13_3, w13_4, w13_5, w14, w15i, w15r, w16, w17, w18, w19i, w19z, w19l, w20, w21, w22, w23, w24, w25, w26, w27, w28_1, w28_2, w28_3, w28_4, w28_5, w28_6, w29, w30i, w30z, w31, w32, w33, w34, w35, w36, w37_1, w37_2, w37_3, w37_4, w37_5, w37_6, isO_O, set1_0, set1_1i, set1_1r, set1_1n, set1_1l, set1_s, set2_0, set2_1i, set2_1r, set2_1n, set2_1l, set2_s, ldv_i, ldv_l, ldv_r, ldv_s, ldi_i, ldi_s, fK_0, fK_s, gfc_O, fS_0, fS_s, uH_s, uH_n, uH_u, tl_s, tl_n, b1_0, b1_1, ite_true, ite_false, if_true, if_false, List.length_nil, List.length_cons, Nat.zero_le, Nat.zero_add, Nat.reduceAdd, Nat.reduceLeDiff, Nat.reduceLT, Nat.reduceEqDiff, Nat.reduceMul, Nat.add_left_cancel_iff, not_false_eq_true, h0, pfc_1]
  exact S_renew_loop (th := 1) (la := a) (le := b) (x1 := some (.int a)) (x2 := none) (a := a) 20 0 _ (by omega) (uH_s _ _ _) (by rw [uH_n _ _ (by omega), fa_fill_0]; exact h1)
theorem S_holds {i n : Int32} (h0 : h q = aO 1 [.int th, .int la, .int le, .ref (q + 1)]) : WpM 13 [.ref q, .int i, .int n] h Q = Q (some (.int (if i < 0 ∨ n < 0 ∨ le - n < i then 0 else 1))) h := by
  rw [eS_holds]
  by_cases a1 : i < 0
  · simp only [qS_holds_0, jS_holds_0, qS_holds_22, jS_holds_22, qS_holds_23, jS_holds_23, w0, w1, w2i, w2r, w3, w4, w5_0, w5_1, w5_2, w5_3, w5_4, w5_5, w5_6, w5_7, w5_8, w6_0, w6_1, w7_0, w7_1, w7_2, w7_3, w7_4, w7_5, w8_0, w8_1, w9_0, w9_1, w9_2, w10_0, w10_1, w10_2, w10_3, w10_4, w10_5, w11, w12_0, w12_1, w12_2, w12_3, w12_4, w12_5, w13_0, w13_1, w13_2, w13_3, w13_4, w13_5, w14, w15i, w15r, w16, w17, w18, w19i, w19z, w19l, w20, w21, w22, w23, w24, w25, w26, w27, w28_1, w28_2, w28_3, w28_4, w28_5, w28_6, w29, w30i, w30z, w31, w32, w33, w34, w35, w36, w37_1, w37_2, w37_3, w37_4, w37_5, w37_6, isO_O, set1_0, set1_1i, set1_1r, set1_1n, set1_1l, set1_s, set2_0, set2_1i, set2_1r, set2_1n, set2_1l, set2_s, ldv_i, ldv_l, ldv_r, ldv_s, ldi_i, ldi_s, fK_0, fK_s, gfc_O, fS_0, fS_s, uH_s, uH_n, uH_u, tl_s, tl_n, b1_0, b1_1, ite_true, ite_false, if_true, if_false, List.length_nil, List.length_cons, Nat.zero_le, Nat.zero_add, Nat.reduceAdd, Nat.reduceLeDiff, Nat.reduceLT, Nat.reduceEqDiff, Nat.reduceMul, Nat.add_left_cancel_iff, not_false_eq_true, i10, Bool.false_eq_true, z01, ne_eq, not_true_eq_false, not_false_eq_true, or_self, true_or, or_true, false_or, or_false, h0, a1]
  · by_cases a2 : n < 0
    · simp only [qS_holds_0, jS_holds_0, qS_holds_22, jS_holds_22, qS_holds_23, jS_holds_23, w0, w1, w2i, w2r, w3, w4, w5_0, w5_1, w5_2, w5_3, w5_4, w5_5, w5_6, w5_7, w5_8, w6_0, w6_1, w7_0, w7_1, w7_2, w7_3, w7_4, w7_5, w8_0, w8_1, w9_0, w9_1, w9_2, w10_0, w10_1, w10_2, w10_3, w10_4, w10_5, w11, w12_0, w12_1, w12_2, w12_3, w12_4, w12_5, w13_0, w13_1, w13_2, w13_3, w13_4, w13_5, w14, w15i, w15r, w16, w17, w18, w19i, w19z, w19l, w20, w21, w22, w23, w24, w25, w26, w27, w28_1, w28_2, w28_3, w28_4, w28_5, w28_6, w29, w30i, w30z, w31, w32, w33, w34, w35, w36, w37_1, w37_2, w37_3, w37_4, w37_5, w37_6, isO_O, set1_0, set1_1i, set1_1r, set1_1n, set1_1l, set1_s, set2_0, set2_1i, set2_1r, set2_1n, set2_1l, set2_s, ldv_i, ldv_l, ldv_r, ldv_s, ldi_i, ldi_s, fK_0, fK_s, gfc_O, fS_0, fS_s, uH_s, uH_n, uH_u, tl_s, tl_n, b1_0, b1_1, ite_true, ite_false, if_true, if_false, List.length_nil, List.length_cons, Nat.zero_le, Nat.zero_add, Nat.reduceAdd, Nat.reduceLeDiff, Nat.reduceLT, Nat.reduceEqDiff, Nat.reduceMul, Nat.add_left_cancel_iff, not_false_eq_true, i10, Bool.false_eq_true, z01, ne_eq, not_true_eq_false, not_false_eq_true, or_self, true_or, or_true, false_or, or_false, h0, a1, a2]
    · by_cases a3 : le - n < i
      · simp only [qS_holds_0, jS_holds_0, qS_holds_22, jS_holds_22, qS_holds_23, jS_holds_23, w0, w1, w2i, w2r, w3, w4, w5_0, w5_1, w5_2, w5_3, w5_4, w5_5, w5_6, w5_7, w5_8, w6_0, w6_1, w7_0, w7_1, w7_2, w7_3, w7_4, w7_5, w8_0, w8_1, w9_0, w9_1, w9_2, w10_0, w10_1, w10_2, w10_3, w10_4, w10_5, w11, w12_0, w12_1, w12_2, w12_3, w12_4, w12_5, w13_0, w13_1, w13_2, w13_3, w13_4, w13_5, w14, w15i, w15r, w16, w17, w18, w19i, w19z, w19l, w20, w21, w22, w23, w24, w25, w26, w27, w28_1, w28_2, w28_3, w28_4, w28_5, w28_6, w29, w30i, w30z, w31, w32, w33, w34, w35, w36, w37_1, w37_2, w37_3, w37_4, w37_5, w37_6, isO_O, set1_0, set1_1i, set1_1r, set1_1n, set1_1l, set1_s, set2_0, set2_1i, set2_1r, set2_1n, set2_1l, set2_s, ldv_i, ldv_l, ldv_r, ldv_s, ldi_i, ldi_s, fK_0, fK_s, gfc_O, fS_0, fS_s, uH_s, uH_n, uH_u, tl_s, tl_n, b1_0, b1_1, ite_true, ite_false, if_true, if_false, List.length_nil, List.length_cons, Nat.zero_le, Nat.zero_add, Nat.reduceAdd, Nat.reduceLeDiff, Nat.reduceLT, Nat.reduceEqDiff, Nat.reduceMul, Nat.add_left_cancel_iff, not_false_eq_true, i10, Bool.false_eq_true, z01, ne_eq, not_true_eq_false, not_false_eq_true, or_self, true_or, or_true, false_or, or_false, h0, a1, a2, a3]
      · simp only [qS_holds_0, jS_holds_0, qS_holds_22, jS_holds_22, qS_holds_23, jS_holds_23, w0, w1, w2i, w2r, w3, w4, w5_0, w5_1, w5_2, w5_3, w5_4, w5_5, w5_6, w5_7, w5_8, w6_0, w6_1, w7_0, w7_1, w7_2, w7_3, w7_4, w7_5, w8_0, w8_1, w9_0, w9_1, w9_2, w10_0, w10_1, w10_2, w10_3, w10_4, w10_5, w11, w12_0, w12_1, w12_2, w12_3, w12_4, w12_5, w13_0, w13_1, w13_2, w13_3, w13_4, w13_5, w14, w15i, w15r, w16, w17, w18, w19i, w19z, w19l, w20, w21, w22, w23, w24, w25, w26, w27, w28_1, w28_2, w28_3, w28_4, w28_5, w28_6, w29, w30i, w30z, w31, w32, w33, w34, w35, w36, w37_1, w37_2, w37_3, w37_4, w37_5, w37_6, isO_O, set1_0, set1_1i, set1_1r, set1_1n, set1_1l, set1_s, set2_0, set2_1i, set2_1r, set2_1n, set2_1l, set2_s, ldv_i, ldv_l, ldv_r, ldv_s, ldi_i, ldi_s, fK_0, fK_s, gfc_O, fS_0, fS_s, uH_s, uH_n, uH_u, tl_s, tl_n, b1_0, b1_1, ite_true, ite_false, if_true, if_false, List.length_nil, List.length_cons, Nat.zero_le, Nat.zero_add, Nat.reduceAdd, Nat.reduceLeDiff, Nat.reduceLT, Nat.reduceEqDiff, Nat.reduceMul, Nat.add_left_cancel_iff, not_false_eq_true, i10, Bool.false_eq_true, z01, ne_eq, not_true_eq_false, not_false_eq_true, or_self, true_or, or_true, false_or, or_false, h0, a1, a2, a3]
end SHEET
section SHEETM
variable {h : AH} {Q : Option Value → AH → Prop} {ho pu ye bo ta ax wr : Int32} {be : Int64} {kn pr im : Int32} {lns szs : Nat → Int32} {its : Nat → Int64} {s : Nat}
theorem M_sheet_loop {x2 : Option Value} {b : Int32} (hs : s < 4) : ∀ (d i : Nat) (h : AH), i + d = 20 → h 39 = mO ho pu ye bo ta ax wr be kn pr im → h 59 = aJ 80 (fb_put its z64 (20 * s) i) → Wp none 140 qM_sheet_46 [some (.ref 39), some (.int (nI s)), x2, some (.int b), some (.int (nI i))] [] h Q = Q (some (.int b)) (uH h 59 (aJ 80 (fb_put its z64 (20 * s) 20))) := by
  intro d
  induction d with
  | zero =>
    intro i h hi h39 h59
    have e : i = 20 := by omega
    subst e
    have hc : (20 : Int32) ≤ nI 20 := by decide
    simp only [qM_sheet_46, qM_sheet_72, jM_sheet_72, w0, w1, w2i, w2r, w3, w4, w5_0, w5_1, w5_2, w5_3, w5_4, w5_5, w5_6, w5_7, w5_8, w6_0, w6_1, w7_0, w7_1, w7_2, w7_3, w7_4, w7_5, w8_0, w8_1, w9_0, w9_1, w9_2, w10_0, w10_1, w10_2, w10_3, w10_4, w10_5, w11, w12_0, w12_1, w12_2, w12_3, w12_4, w12_5, w13_0, w13_1, w13_2, w13_3, w13_4, w13_5, w14, w15i, w15r, w16, w17, w18, w19i, w19z, w19l, w20, w21, w22, w23, w24, w25, w26, w27, w28_1, w28_2, w28_3, w28_4, w28_5, w28_6, w29, w30i, w30z, w31, w32, w33, w34, w35, w36, w37_1, w37_2, w37_3, w37_4, w37_5, w37_6, isO_O, set1_0, set1_1i, set1_1r, set1_1n, set1_1l, set1_s, set2_0, set2_1i, set2_1r, set2_1n, set2_1l, set2_s, ldv_i, ldv_l, ldv_r, ldv_s, ldi_i, ldi_s, fK_0, fK_s, gfc_O, fS_0, fS_s, uH_s, uH_n, uH_u, tl_s, tl_n, b1_0, b1_1, ite_true, ite_false, if_true, if_false, List.length_nil, List.length_cons, Nat.zero_le, Nat.zero_add, Nat.reduceAdd, Nat.reduceLeDiff, Nat.reduceLT, Nat.reduceEqDiff, Nat.reduceMul, Nat.add_left_cancel_iff, not_false_eq_true, hc]
    rw [uH_id h h59]
  | succ d ih =>
    intro i h hi h39 h59
    have hc : ¬ (20 : Int32) ≤ nI i := nI_ge (b := 20) (by omega) (by decide)
    have fs : vp_updL (fb_put its z64 (20 * s) i) (20 * s + i) 0 = fb_put its z64 (20 * s) (i + 1) := putL_succ its z64 (20 * s) i
    rw [qM_sheet_46]
    simp only [w0, w1, w2i, w2r, w3, w4, w5_0, w5_1, w5_2, w5_3, w5_4, w5_5, w5_6, w5_7, w5_8, w6_0, w6_1, w7_0, w7_1, w7_2, w7_3, w7_4, w7_5, w8_0, w8_1, w9_0, w9_1, w9_2, w10_0, w10_1, w10_2, w10_3, w10_4, w10_5, w11, w12_0, w12_1, w12_2, w12_3, w12_4, w12_5, w13_0, w13_1, w13_2, w13_3, w13_4, w13_5, w14, w15i, w15r, w16, w17, w18, w19i, w19z, w19l, w20, w21, w22, w23, w24, w25, w26, w27, w28_1, w28_2, w28_3, w28_4, w28_5, w28_6, w29, w30i, w30z, w31, w32, w33, w34, w35, w36, w37_1, w37_2, w37_3, w37_4, w37_5, w37_6, isO_O, set1_0, set1_1i, set1_1r, set1_1n, set1_1l, set1_s, set2_0, set2_1i, set2_1r, set2_1n, set2_1l, set2_s, ldv_i, ldv_l, ldv_r, ldv_s, ldi_i, ldi_s, fK_0, fK_s, gfc_O, fS_0, fS_s, uH_s, uH_n, uH_u, tl_s, tl_n, b1_0, b1_1, ite_true, ite_false, if_true, if_false, List.length_nil, List.length_cons, Nat.zero_le, Nat.zero_add, Nat.reduceAdd, Nat.reduceLeDiff, Nat.reduceLT, Nat.reduceEqDiff, Nat.reduceMul, Nat.add_left_cancel_iff, not_false_eq_true, h39, h59, hc, jM_sheet_46, n20, nI_add, nI_1, wJc_n (show 20 * s + i < 80 by omega) (show 80 < 2 ^ 31 by decide), fs]
    rw [ih (i + 1) _ (by omega) (by rw [uH_n _ _ (by omega)]; exact h39) (by rw [uH_s]), uH_u]
theorem M_why {lane i n : Int32} (h39 : h 39 = mO ho pu ye bo ta ax wr be kn pr im) (h57 : h 57 = aI 4 lns) (h58 : h 58 = aI 4 szs) (hs : s < 4) : WpM 136 [.ref 39, .int (nI s), .int lane, .int i, .int n] h Q = Q (some (.int (if lns s < 0 then -11 else if ¬ lns s = lane then -12 else if i < 0 ∨ (szs s).toInt64 < i.toInt64 + n.toInt64 then -13 else 0))) h := by
  rw [eM_why]
  have r := fun (f : Nat → Int32) (K : Int32 → Prop) (q : Nat) => rIc_n (X := none) (a := q) (f := f) (K := K) hs (show 4 < 2 ^ 31 by decide)
  by_cases a1 : lns s < 0
  · have a1' : ¬ 0 ≤ lns s := by rw [fa_lt] at a1; rw [fa_le]; omega
    rw [if_pos a1]
    simp only [qM_why_0, jM_why_0, qM_why_12, jM_why_12, qM_why_25, jM_why_25, qM_why_46, jM_why_46, qM_why_51, jM_why_51, qM_why_52, jM_why_52, w0, w1, w2i, w2r, w3, w4, w5_0, w5_1, w5_2, w5_3, w5_4, w5_5, w5_6, w5_7, w5_8, w6_0, w6_1, w7_0, w7_1, w7_2, w7_3, w7_4, w7_5, w8_0, w8_1, w9_0, w9_1, w9_2, w10_0, w10_1, w10_2, w10_3, w10_4, w10_5, w11, w12_0, w12_1, w12_2, w12_3, w12_4, w12_5, w13_0, w13_1, w13_2, w13_3, w13_4, w13_5, w14, w15i, w15r, w16, w17, w18, w19i, w19z, w19l, w20, w21, w22, w23, w24, w25, w26, w27, w28_1, w28_2, w28_3, w28_4, w28_5, w28_6, w29, w30i, w30z, w31, w32, w33, w34, w35, w36, w37_1, w37_2, w37_3, w37_4, w37_5, w37_6, isO_O, set1_0, set1_1i, set1_1r, set1_1n, set1_1l, set1_s, set2_0, set2_1i, set2_1r, set2_1n, set2_1l, set2_s, ldv_i, ldv_l, ldv_r, ldv_s, ldi_i, ldi_s, fK_0, fK_s, gfc_O, fS_0, fS_s, uH_s, uH_n, uH_u, tl_s, tl_n, b1_0, b1_1, ite_true, ite_false, if_true, if_false, List.length_nil, List.length_cons, Nat.zero_le, Nat.zero_add, Nat.reduceAdd, Nat.reduceLeDiff, Nat.reduceLT, Nat.reduceEqDiff, Nat.reduceMul, Nat.add_left_cancel_iff, not_false_eq_true, i10, Bool.false_eq_true, z01, ne_eq, not_true_eq_false, not_false_eq_true, or_self, true_or, or_true, false_or, or_false, h39, h57, r, a1']
  · have a1' : 0 ≤ lns s := by rw [fa_lt] at a1; rw [fa_le]; omega
    rw [if_neg a1]
    by_cases a2 : lns s = lane
    · rw [if_neg (fun z => z a2)]
      by_cases a3 : i < 0
      · rw [if_pos (Or.inl a3)]
        rw [a2] at a1'
        simp only [qM_why_0, jM_why_0, qM_why_12, jM_why_12, qM_why_25, jM_why_25, qM_why_46, jM_why_46, qM_why_51, jM_why_51, qM_why_52, jM_why_52, w0, w1, w2i, w2r, w3, w4, w5_0, w5_1, w5_2, w5_3, w5_4, w5_5, w5_6, w5_7, w5_8, w6_0, w6_1, w7_0, w7_1, w7_2, w7_3, w7_4, w7_5, w8_0, w8_1, w9_0, w9_1, w9_2, w10_0, w10_1, w10_2, w10_3, w10_4, w10_5, w11, w12_0, w12_1, w12_2, w12_3, w12_4, w12_5, w13_0, w13_1, w13_2, w13_3, w13_4, w13_5, w14, w15i, w15r, w16, w17, w18, w19i, w19z, w19l, w20, w21, w22, w23, w24, w25, w26, w27, w28_1, w28_2, w28_3, w28_4, w28_5, w28_6, w29, w30i, w30z, w31, w32, w33, w34, w35, w36, w37_1, w37_2, w37_3, w37_4, w37_5, w37_6, isO_O, set1_0, set1_1i, set1_1r, set1_1n, set1_1l, set1_s, set2_0, set2_1i, set2_1r, set2_1n, set2_1l, set2_s, ldv_i, ldv_l, ldv_r, ldv_s, ldi_i, ldi_s, fK_0, fK_s, gfc_O, fS_0, fS_s, uH_s, uH_n, uH_u, tl_s, tl_n, b1_0, b1_1, ite_true, ite_false, if_true, if_false, List.length_nil, List.length_cons, Nat.zero_le, Nat.zero_add, Nat.reduceAdd, Nat.reduceLeDiff, Nat.reduceLT, Nat.reduceEqDiff, Nat.reduceMul, Nat.add_left_cancel_iff, not_false_eq_true, i10, Bool.false_eq_true, z01, ne_eq, not_true_eq_false, not_false_eq_true, or_self, true_or, or_true, false_or, or_false, h39, h57, h58, r, a1', a2, a3]
      · rw [a2] at a1'
        by_cases a4 : (szs s).toInt64 < i.toInt64 + n.toInt64
        · rw [if_pos (Or.inr a4)]
          have a5 : ¬ i.toInt64 + n.toInt64 ≤ (szs s).toInt64 := by rw [fa_lt64] at a4; rw [fa_le64]; omega
          simp only [qM_why_0, jM_why_0, qM_why_12, jM_why_12, qM_why_25, jM_why_25, qM_why_46, jM_why_46, qM_why_51, jM_why_51, qM_why_52, jM_why_52, w0, w1, w2i, w2r, w3, w4, w5_0, w5_1, w5_2, w5_3, w5_4, w5_5, w5_6, w5_7, w5_8, w6_0, w6_1, w7_0, w7_1, w7_2, w7_3, w7_4, w7_5, w8_0, w8_1, w9_0, w9_1, w9_2, w10_0, w10_1, w10_2, w10_3, w10_4, w10_5, w11, w12_0, w12_1, w12_2, w12_3, w12_4, w12_5, w13_0, w13_1, w13_2, w13_3, w13_4, w13_5, w14, w15i, w15r, w16, w17, w18, w19i, w19z, w19l, w20, w21, w22, w23, w24, w25, w26, w27, w28_1, w28_2, w28_3, w28_4, w28_5, w28_6, w29, w30i, w30z, w31, w32, w33, w34, w35, w36, w37_1, w37_2, w37_3, w37_4, w37_5, w37_6, isO_O, set1_0, set1_1i, set1_1r, set1_1n, set1_1l, set1_s, set2_0, set2_1i, set2_1r, set2_1n, set2_1l, set2_s, ldv_i, ldv_l, ldv_r, ldv_s, ldi_i, ldi_s, fK_0, fK_s, gfc_O, fS_0, fS_s, uH_s, uH_n, uH_u, tl_s, tl_n, b1_0, b1_1, ite_true, ite_false, if_true, if_false, List.length_nil, List.length_cons, Nat.zero_le, Nat.zero_add, Nat.reduceAdd, Nat.reduceLeDiff, Nat.reduceLT, Nat.reduceEqDiff, Nat.reduceMul, Nat.add_left_cancel_iff, not_false_eq_true, i10, Bool.false_eq_true, z01, ne_eq, not_true_eq_false, not_false_eq_true, or_self, true_or, or_true, false_or, or_false, h39, h57, h58, r, a1', a2, a3, lg_cmp_le, a5]
        · rw [if_neg (fun z => z.elim a3 a4)]
          have a5 : i.toInt64 + n.toInt64 ≤ (szs s).toInt64 := by rw [fa_lt64] at a4; rw [fa_le64]; omega
          simp only [qM_why_0, jM_why_0, qM_why_12, jM_why_12, qM_why_25, jM_why_25, qM_why_46, jM_why_46, qM_why_51, jM_why_51, qM_why_52, jM_why_52, w0, w1, w2i, w2r, w3, w4, w5_0, w5_1, w5_2, w5_3, w5_4, w5_5, w5_6, w5_7, w5_8, w6_0, w6_1, w7_0, w7_1, w7_2, w7_3, w7_4, w7_5, w8_0, w8_1, w9_0, w9_1, w9_2, w10_0, w10_1, w10_2, w10_3, w10_4, w10_5, w11, w12_0, w12_1, w12_2, w12_3, w12_4, w12_5, w13_0, w13_1, w13_2, w13_3, w13_4, w13_5, w14, w15i, w15r, w16, w17, w18, w19i, w19z, w19l, w20, w21, w22, w23, w24, w25, w26, w27, w28_1, w28_2, w28_3, w28_4, w28_5, w28_6, w29, w30i, w30z, w31, w32, w33, w34, w35, w36, w37_1, w37_2, w37_3, w37_4, w37_5, w37_6, isO_O, set1_0, set1_1i, set1_1r, set1_1n, set1_1l, set1_s, set2_0, set2_1i, set2_1r, set2_1n, set2_1l, set2_s, ldv_i, ldv_l, ldv_r, ldv_s, ldi_i, ldi_s, fK_0, fK_s, gfc_O, fS_0, fS_s, uH_s, uH_n, uH_u, tl_s, tl_n, b1_0, b1_1, ite_true, ite_false, if_true, if_false, List.length_nil, List.length_cons, Nat.zero_le, Nat.zero_add, Nat.reduceAdd, Nat.reduceLeDiff, Nat.reduceLT, Nat.reduceEqDiff, Nat.reduceMul, Nat.add_left_cancel_iff, not_false_eq_true, i10, Bool.false_eq_true, z01, ne_eq, not_true_eq_false, not_false_eq_true, or_self, true_or, or_true, false_or, or_false, h39, h57, h58, r, a1', a2, a3, lg_cmp_le, a5]
    · rw [if_pos a2]
      simp only [qM_why_0, jM_why_0, qM_why_12, jM_why_12, qM_why_25, jM_why_25, qM_why_46, jM_why_46, qM_why_51, jM_why_51, qM_why_52, jM_why_52, w0, w1, w2i, w2r, w3, w4, w5_0, w5_1, w5_2, w5_3, w5_4, w5_5, w5_6, w5_7, w5_8, w6_0, w6_1, w7_0, w7_1, w7_2, w7_3, w7_4, w7_5, w8_0, w8_1, w9_0, w9_1, w9_2, w10_0, w10_1, w10_2, w10_3, w10_4, w10_5, w11, w12_0, w12_1, w12_2, w12_3, w12_4, w12_5, w13_0, w13_1, w13_2, w13_3, w13_4, w13_5, w14, w15i, w15r, w16, w17, w18, w19i, w19z, w19l, w20, w21, w22, w23, w24, w25, w26, w27, w28_1, w28_2, w28_3, w28_4, w28_5, w28_6, w29, w30i, w30z, w31, w32, w33, w34, w35, w36, w37_1, w37_2, w37_3, w37_4, w37_5, w37_6, isO_O, set1_0, set1_1i, set1_1r, set1_1n, set1_1l, set1_s, set2_0, set2_1i, set2_1r, set2_1n, set2_1l, set2_s, ldv_i, ldv_l, ldv_r, ldv_s, ldi_i, ldi_s, fK_0, fK_s, gfc_O, fS_0, fS_s, uH_s, uH_n, uH_u, tl_s, tl_n, b1_0, b1_1, ite_true, ite_false, if_true, if_false, List.length_nil, List.length_cons, Nat.zero_le, Nat.zero_add, Nat.reduceAdd, Nat.reduceLeDiff, Nat.reduceLT, Nat.reduceEqDiff, Nat.reduceMul, Nat.add_left_cancel_iff, not_false_eq_true, i10, Bool.false_eq_true, z01, ne_eq, not_true_eq_false, not_false_eq_true, or_self, true_or, or_true, false_or, or_false, h39, h57, r, a1', a2]
theorem M_comesTo {j : Nat} {v : Int64} (h39 : h 39 = mO ho pu ye bo ta ax wr be kn pr im) (h57 : h 57 = aI 4 lns) (h59 : h 59 = aJ 80 its) (hs : s < 4) (hj : j < 20) : WpM 138 [.ref 39, .int (nI s), .int (nI j), .long v] h Q = Q none (uH h 59 (aJ 80 (vp_updL its (20 * s + j) (if lns s = 0 then v.toInt32.toInt8.toInt32.toInt64 else if lns s = 1 then v.toInt32.toInt16.toInt32.toInt64 else v)))) := by
  rw [eM_comesTo]
  have r := fun (f : Nat → Int32) (K : Int32 → Prop) (q : Nat) => rIc_n (X := none) (a := q) (f := f) (K := K) hs (show 4 < 2 ^ 31 by decide)
  by_cases a1 : lns s = 0
  · simp only [qM_comesTo_0, jM_comesTo_0, qM_comesTo_30, jM_comesTo_30, qM_comesTo_43, jM_comesTo_43, qM_comesTo_44, jM_comesTo_44, w0, w1, w2i, w2r, w3, w4, w5_0, w5_1, w5_2, w5_3, w5_4, w5_5, w5_6, w5_7, w5_8, w6_0, w6_1, w7_0, w7_1, w7_2, w7_3, w7_4, w7_5, w8_0, w8_1, w9_0, w9_1, w9_2, w10_0, w10_1, w10_2, w10_3, w10_4, w10_5, w11, w12_0, w12_1, w12_2, w12_3, w12_4, w12_5, w13_0, w13_1, w13_2, w13_3, w13_4, w13_5, w14, w15i, w15r, w16, w17, w18, w19i, w19z, w19l, w20, w21, w22, w23, w24, w25, w26, w27, w28_1, w28_2, w28_3, w28_4, w28_5, w28_6, w29, w30i, w30z, w31, w32, w33, w34, w35, w36, w37_1, w37_2, w37_3, w37_4, w37_5, w37_6, isO_O, set1_0, set1_1i, set1_1r, set1_1n, set1_1l, set1_s, set2_0, set2_1i, set2_1r, set2_1n, set2_1l, set2_s, ldv_i, ldv_l, ldv_r, ldv_s, ldi_i, ldi_s, fK_0, fK_s, gfc_O, fS_0, fS_s, uH_s, uH_n, uH_u, tl_s, tl_n, b1_0, b1_1, ite_true, ite_false, if_true, if_false, List.length_nil, List.length_cons, Nat.zero_le, Nat.zero_add, Nat.reduceAdd, Nat.reduceLeDiff, Nat.reduceLT, Nat.reduceEqDiff, Nat.reduceMul, Nat.add_left_cancel_iff, not_false_eq_true, i10, Bool.false_eq_true, z01, ne_eq, not_true_eq_false, not_false_eq_true, or_self, true_or, or_true, false_or, or_false, h39, h57, h59, r, a1, n20, nI_add, wJc_n (show 20 * s + j < 80 by omega) (show 80 < 2 ^ 31 by decide)]
  · by_cases a2 : lns s = 1
    · simp only [qM_comesTo_0, jM_comesTo_0, qM_comesTo_30, jM_comesTo_30, qM_comesTo_43, jM_comesTo_43, qM_comesTo_44, jM_comesTo_44, w0, w1, w2i, w2r, w3, w4, w5_0, w5_1, w5_2, w5_3, w5_4, w5_5, w5_6, w5_7, w5_8, w6_0, w6_1, w7_0, w7_1, w7_2, w7_3, w7_4, w7_5, w8_0, w8_1, w9_0, w9_1, w9_2, w10_0, w10_1, w10_2, w10_3, w10_4, w10_5, w11, w12_0, w12_1, w12_2, w12_3, w12_4, w12_5, w13_0, w13_1, w13_2, w13_3, w13_4, w13_5, w14, w15i, w15r, w16, w17, w18, w19i, w19z, w19l, w20, w21, w22, w23, w24, w25, w26, w27, w28_1, w28_2, w28_3, w28_4, w28_5, w28_6, w29, w30i, w30z, w31, w32, w33, w34, w35, w36, w37_1, w37_2, w37_3, w37_4, w37_5, w37_6, isO_O, set1_0, set1_1i, set1_1r, set1_1n, set1_1l, set1_s, set2_0, set2_1i, set2_1r, set2_1n, set2_1l, set2_s, ldv_i, ldv_l, ldv_r, ldv_s, ldi_i, ldi_s, fK_0, fK_s, gfc_O, fS_0, fS_s, uH_s, uH_n, uH_u, tl_s, tl_n, b1_0, b1_1, ite_true, ite_false, if_true, if_false, List.length_nil, List.length_cons, Nat.zero_le, Nat.zero_add, Nat.reduceAdd, Nat.reduceLeDiff, Nat.reduceLT, Nat.reduceEqDiff, Nat.reduceMul, Nat.add_left_cancel_iff, not_false_eq_true, i10, Bool.false_eq_true, z01, ne_eq, not_true_eq_false, not_false_eq_true, or_self, true_or, or_true, false_or, or_false, h39, h57, h59, r, a2, n20, nI_add, wJc_n (show 20 * s + j < 80 by omega) (show 80 < 2 ^ 31 by decide)]
    · simp only [qM_comesTo_0, jM_comesTo_0, qM_comesTo_30, jM_comesTo_30, qM_comesTo_43, jM_comesTo_43, qM_comesTo_44, jM_comesTo_44, w0, w1, w2i, w2r, w3, w4, w5_0, w5_1, w5_2, w5_3, w5_4, w5_5, w5_6, w5_7, w5_8, w6_0, w6_1, w7_0, w7_1, w7_2, w7_3, w7_4, w7_5, w8_0, w8_1, w9_0, w9_1, w9_2, w10_0, w10_1, w10_2, w10_3, w10_4, w10_5, w11, w12_0, w12_1, w12_2, w12_3, w12_4, w12_5, w13_0, w13_1, w13_2, w13_3, w13_4, w13_5, w14, w15i, w15r, w16, w17, w18, w19i, w19z, w19l, w20, w21, w22, w23, w24, w25, w26, w27, w28_1, w28_2, w28_3, w28_4, w28_5, w28_6, w29, w30i, w30z, w31, w32, w33, w34, w35, w36, w37_1, w37_2, w37_3, w37_4, w37_5, w37_6, isO_O, set1_0, set1_1i, set1_1r, set1_1n, set1_1l, set1_s, set2_0, set2_1i, set2_1r, set2_1n, set2_1l, set2_s, ldv_i, ldv_l, ldv_r, ldv_s, ldi_i, ldi_s, fK_0, fK_s, gfc_O, fS_0, fS_s, uH_s, uH_n, uH_u, tl_s, tl_n, b1_0, b1_1, ite_true, ite_false, if_true, if_false, List.length_nil, List.length_cons, Nat.zero_le, Nat.zero_add, Nat.reduceAdd, Nat.reduceLeDiff, Nat.reduceLT, Nat.reduceEqDiff, Nat.reduceMul, Nat.add_left_cancel_iff, not_false_eq_true, i10, Bool.false_eq_true, z01, ne_eq, not_true_eq_false, not_false_eq_true, or_self, true_or, or_true, false_or, or_false, h39, h57, h59, r, a1, a2, n20, nI_add, wJc_n (show 20 * s + j < 80 by omega) (show 80 < 2 ^ 31 by decide)]
end SHEETM
def rfI (th la le lane i n : Int32) : Int32 := if th = 0 then -11 else if ¬ la = lane then -12 else if i < 0 ∨ n < 0 ∨ le - n < i then -13 else 0
theorem C_refusal {h : AH} {Q : Option Value → AH → Prop} {s : Nat} {ik th la le lane i n : Int32} (h0 : h 0 = aO 4 [.ref 1, .ref 8, .ref 15, .ref 22, .ref 26, .ref 28, .ref 29, .ref 30, .int ik]) (h28 : h 28 = aR 4 shR) (hs : s < 4) (hb : ¬ (lane < 0 ∨ 2 < lane)) (ho : h (31 + 2 * s) = aO 1 [.int th, .int la, .int le, .ref (31 + 2 * s + 1)]) : WpM 85 [.ref 0, .int (nI s), .int lane, .int i, .int n] h Q = Q (some (.int (rfI th la le lane i n))) h := by
  have hsv : ¬ (nI s < 0 ∨ (4 : Int32) ≤ nI s) := by
    rw [fa_lt, fa_le, nI_toInt (by omega)]
    have z : (0 : Int32).toInt = 0 := rfl
    have z4 : (4 : Int32).toInt = 4 := rfl
    omega
  have r := fun (K : Nat → Prop) => rRc_n (f := shR) (K := K) hs (show 4 < 2 ^ 31 by decide) (shR_s hs)
  rw [eC_refusal]
  unfold rfI
  by_cases a1 : th = 0
  · rw [if_pos a1]
    simp only [qC_refusal_0, jC_refusal_0, qC_refusal_14, jC_refusal_14, qC_refusal_16, jC_refusal_16, qC_refusal_31, jC_refusal_31, qC_refusal_47, jC_refusal_47, qC_refusal_66, jC_refusal_66, qC_refusal_68, jC_refusal_68, w0, w1, w2i, w2r, w3, w4, w5_0, w5_1, w5_2, w5_3, w5_4, w5_5, w5_6, w5_7, w5_8, w6_0, w6_1, w7_0, w7_1, w7_2, w7_3, w7_4, w7_5, w8_0, w8_1, w9_0, w9_1, w9_2, w10_0, w10_1, w10_2, w10_3, w10_4, w10_5, w11, w12_0, w12_1, w12_2, w12_3, w12_4, w12_5, w13_0, w13_1, w13_2, w13_3, w13_4, w13_5, w14, w15i, w15r, w16, w17, w18, w19i, w19z, w19l, w20, w21, w22, w23, w24, w25, w26, w27, w28_1, w28_2, w28_3, w28_4, w28_5, w28_6, w29, w30i, w30z, w31, w32, w33, w34, w35, w36, w37_1, w37_2, w37_3, w37_4, w37_5, w37_6, isO_O, set1_0, set1_1i, set1_1r, set1_1n, set1_1l, set1_s, set2_0, set2_1i, set2_1r, set2_1n, set2_1l, set2_s, ldv_i, ldv_l, ldv_r, ldv_s, ldi_i, ldi_s, fK_0, fK_s, gfc_O, fS_0, fS_s, uH_s, uH_n, uH_u, tl_s, tl_n, b1_0, b1_1, ite_true, ite_false, if_true, if_false, List.length_nil, List.length_cons, Nat.zero_le, Nat.zero_add, Nat.reduceAdd, Nat.reduceLeDiff, Nat.reduceLT, Nat.reduceEqDiff, Nat.reduceMul, Nat.add_left_cancel_iff, not_false_eq_true, i10, Bool.false_eq_true, z01, ne_eq, not_true_eq_false, not_false_eq_true, or_self, true_or, or_true, false_or, or_false, C_isSheet, hsv, C_isLane, hb, h0, h28, r, ho, a1]
  · rw [if_neg a1]
    by_cases a2 : la = lane
    · rw [if_neg (fun z => z a2)]
      by_cases a3 : i < 0 ∨ n < 0 ∨ le - n < i
      · rw [if_pos a3]
        simp only [qC_refusal_0, jC_refusal_0, qC_refusal_14, jC_refusal_14, qC_refusal_16, jC_refusal_16, qC_refusal_31, jC_refusal_31, qC_refusal_47, jC_refusal_47, qC_refusal_66, jC_refusal_66, qC_refusal_68, jC_refusal_68, w0, w1, w2i, w2r, w3, w4, w5_0, w5_1, w5_2, w5_3, w5_4, w5_5, w5_6, w5_7, w5_8, w6_0, w6_1, w7_0, w7_1, w7_2, w7_3, w7_4, w7_5, w8_0, w8_1, w9_0, w9_1, w9_2, w10_0, w10_1, w10_2, w10_3, w10_4, w10_5, w11, w12_0, w12_1, w12_2, w12_3, w12_4, w12_5, w13_0, w13_1, w13_2, w13_3, w13_4, w13_5, w14, w15i, w15r, w16, w17, w18, w19i, w19z, w19l, w20, w21, w22, w23, w24, w25, w26, w27, w28_1, w28_2, w28_3, w28_4, w28_5, w28_6, w29, w30i, w30z, w31, w32, w33, w34, w35, w36, w37_1, w37_2, w37_3, w37_4, w37_5, w37_6, isO_O, set1_0, set1_1i, set1_1r, set1_1n, set1_1l, set1_s, set2_0, set2_1i, set2_1r, set2_1n, set2_1l, set2_s, ldv_i, ldv_l, ldv_r, ldv_s, ldi_i, ldi_s, fK_0, fK_s, gfc_O, fS_0, fS_s, uH_s, uH_n, uH_u, tl_s, tl_n, b1_0, b1_1, ite_true, ite_false, if_true, if_false, List.length_nil, List.length_cons, Nat.zero_le, Nat.zero_add, Nat.reduceAdd, Nat.reduceLeDiff, Nat.reduceLT, Nat.reduceEqDiff, Nat.reduceMul, Nat.add_left_cancel_iff, not_false_eq_true, i10, Bool.false_eq_true, z01, ne_eq, not_true_eq_false, not_false_eq_true, or_self, true_or, or_true, false_or, or_false, C_isSheet, hsv, C_isLane, hb, h0, h28, r, ho, a1, a2, S_holds ho, a3]
      · rw [if_neg a3]
        simp only [qC_refusal_0, jC_refusal_0, qC_refusal_14, jC_refusal_14, qC_refusal_16, jC_refusal_16, qC_refusal_31, jC_refusal_31, qC_refusal_47, jC_refusal_47, qC_refusal_66, jC_refusal_66, qC_refusal_68, jC_refusal_68, w0, w1, w2i, w2r, w3, w4, w5_0, w5_1, w5_2, w5_3, w5_4, w5_5, w5_6, w5_7, w5_8, w6_0, w6_1, w7_0, w7_1, w7_2, w7_3, w7_4, w7_5, w8_0, w8_1, w9_0, w9_1, w9_2, w10_0, w10_1, w10_2, w10_3, w10_4, w10_5, w11, w12_0, w12_1, w12_2, w12_3, w12_4, w12_5, w13_0, w13_1, w13_2, w13_3, w13_4, w13_5, w14, w15i, w15r, w16, w17, w18, w19i, w19z, w19l, w20, w21, w22, w23, w24, w25, w26, w27, w28_1, w28_2, w28_3, w28_4, w28_5, w28_6, w29, w30i, w30z, w31, w32, w33, w34, w35, w36, w37_1, w37_2, w37_3, w37_4, w37_5, w37_6, isO_O, set1_0, set1_1i, set1_1r, set1_1n, set1_1l, set1_s, set2_0, set2_1i, set2_1r, set2_1n, set2_1l, set2_s, ldv_i, ldv_l, ldv_r, ldv_s, ldi_i, ldi_s, fK_0, fK_s, gfc_O, fS_0, fS_s, uH_s, uH_n, uH_u, tl_s, tl_n, b1_0, b1_1, ite_true, ite_false, if_true, if_false, List.length_nil, List.length_cons, Nat.zero_le, Nat.zero_add, Nat.reduceAdd, Nat.reduceLeDiff, Nat.reduceLT, Nat.reduceEqDiff, Nat.reduceMul, Nat.add_left_cancel_iff, not_false_eq_true, i10, Bool.false_eq_true, z01, ne_eq, not_true_eq_false, not_false_eq_true, or_self, true_or, or_true, false_or, or_false, C_isSheet, hsv, C_isLane, hb, h0, h28, r, ho, a1, a2, S_holds ho, a3]
    · rw [if_pos a2]
      simp only [qC_refusal_0, jC_refusal_0, qC_refusal_14, jC_refusal_14, qC_refusal_16, jC_refusal_16, qC_refusal_31, jC_refusal_31, qC_refusal_47, jC_refusal_47, qC_refusal_66, jC_refusal_66, qC_refusal_68, jC_refusal_68, w0, w1, w2i, w2r, w3, w4, w5_0, w5_1, w5_2, w5_3, w5_4, w5_5, w5_6, w5_7, w5_8, w6_0, w6_1, w7_0, w7_1, w7_2, w7_3, w7_4, w7_5, w8_0, w8_1, w9_0, w9_1, w9_2, w10_0, w10_1, w10_2, w10_3, w10_4, w10_5, w11, w12_0, w12_1, w12_2, w12_3, w12_4, w12_5, w13_0, w13_1, w13_2, w13_3, w13_4, w13_5, w14, w15i, w15r, w16, w17, w18, w19i, w19z, w19l, w20, w21, w22, w23, w24, w25, w26, w27, w28_1, w28_2, w28_3, w28_4, w28_5, w28_6, w29, w30i, w30z, w31, w32, w33, w34, w35, w36, w37_1, w37_2, w37_3, w37_4, w37_5, w37_6, isO_O, set1_0, set1_1i, set1_1r, set1_1n, set1_1l, set1_s, set2_0, set2_1i, set2_1r, set2_1n, set2_1l, set2_s, ldv_i, ldv_l, ldv_r, ldv_s, ldi_i, ldi_s, fK_0, fK_s, gfc_O, fS_0, fS_s, uH_s, uH_n, uH_u, tl_s, tl_n, b1_0, b1_1, ite_true, ite_false, if_true, if_false, List.length_nil, List.length_cons, Nat.zero_le, Nat.zero_add, Nat.reduceAdd, Nat.reduceLeDiff, Nat.reduceLT, Nat.reduceEqDiff, Nat.reduceMul, Nat.add_left_cancel_iff, not_false_eq_true, i10, Bool.false_eq_true, z01, ne_eq, not_true_eq_false, not_false_eq_true, or_self, true_or, or_true, false_or, or_false, C_isSheet, hsv, C_isLane, hb, h0, h28, r, ho, a1, a2]
/-- both refuse alike -/
theorem why_eq {th la le lane i n : Int32} {it its : Nat → Int64} {lns szs : Nat → Int32} {s : Nat} (hV : Vs th la le it lns szs its s) (hn : 0 ≤ n.toInt) : (if lns s < 0 then (-11 : Int32) else if ¬ lns s = lane then -12 else if i < 0 ∨ (szs s).toInt64 < i.toInt64 + n.toInt64 then -13 else 0) = rfI th la le lane i n := by
  obtain ⟨v1, v2, v3, v4⟩ := hV
  unfold rfI
  rcases v1 with ⟨t0, l0⟩ | ⟨t1, l1, l2, l3⟩
  · rw [if_pos t0, l0, if_pos (by decide)]
  · rw [if_neg (show ¬ th = 0 by rw [t1]; decide), l1, if_neg (by rw [fa_lt]; have : (0 : Int32).toInt = 0 := rfl; omega)]
    by_cases a2 : la = lane
    · rw [if_neg (show ¬ ¬ la = lane from fun z => z a2), if_neg (show ¬ ¬ la = lane from fun z => z a2)]
      have r1 := fb_rng i
      have r2 := fb_rng n
      have e : (i < 0 ∨ (szs s).toInt64 < i.toInt64 + n.toInt64) ↔ (i < 0 ∨ n < 0 ∨ le - n < i) := by
        rw [v2, fa_lt64, fb_addL (by rw [Int32.toInt_toInt64, Int32.toInt_toInt64]; omega) (by rw [Int32.toInt_toInt64, Int32.toInt_toInt64]; omega), Int32.toInt_toInt64, Int32.toInt_toInt64, Int32.toInt_toInt64, fa_lt, fa_lt, fa_lt, fb_subI (by omega) (by omega)]
        have : (0 : Int32).toInt = 0 := rfl
        omega
      by_cases c : i < 0 ∨ n < 0 ∨ le - n < i
      · rw [if_pos c, if_pos (e.mpr c)]
      · rw [if_neg c, if_neg (fun z => c (e.mp z))]
    · rw [if_pos a2, if_pos a2]
theorem rf_0 {th la le lane i n : Int32} (h : rfI th la le lane i n = 0) : ¬ th = 0 ∧ la = lane ∧ ¬ (i < 0 ∨ n < 0 ∨ le - n < i) := by
  unfold rfI at h
  by_cases a1 : th = 0
  · rw [if_pos a1] at h; exact absurd h (by decide)
  · rw [if_neg a1] at h
    by_cases a2 : la = lane
    · rw [if_neg (fun z => z a2)] at h
      by_cases a3 : i < 0 ∨ n < 0 ∨ le - n < i
      · rw [if_pos a3] at h; exact absurd h (by decide)
      · exact ⟨a1, a2, a3⟩
    · rw [if_pos a2] at h; exact absurd h (by decide)
theorem rf_neg {th la le lane i n : Int32} (h : ¬ rfI th la le lane i n = 0) : rfI th la le lane i n < 0 := by
  unfold rfI at h ⊢
  split
  · decide
  · split
    · decide
    · split
      · decide
      · rename_i h1 h2 h3
        rw [if_neg h1, if_neg h2, if_neg h3] at h
        exact absurd rfl h

/-! the pairs of public methods, one after the other -/
def Pr (kC kM : Nat) (as : List Value) : Prop := ∀ h, RR h → WpM kC (.ref 0 :: as) h (fun v h1 => WpM kM (.ref 39 :: as) h1 (fun w h2 => (∃ x : Int32, v = some (.int x) ∧ w = some (.int x)) ∧ RR h2))
def PrL (kC kM : Nat) (as : List Value) : Prop := ∀ h, RR h → WpM kC (.ref 0 :: as) h (fun v h1 => WpM kM (.ref 39 :: as) h1 (fun w h2 => (∃ x : Int64, v = some (.long x) ∧ w = some (.long x)) ∧ RR h2))
theorem wd0 (a : Int32) : (a.toInt64 < 0) = (a < 0) := propext (fa_wide_lt a 0)
theorem wd1 (a : Int32) : (1 < a.toInt64) = (1 < a) := propext (fa_wide_lt 1 a)
theorem wd2 (a : Int32) : (2 < a.toInt64) = (2 < a) := propext (fa_wide_lt 2 a)
theorem wd3 (a : Int32) : (3 < a.toInt64) = (3 < a) := propext (fa_wide_lt 3 a)
theorem wd5 (a : Int32) : (5 < a.toInt64) = (5 < a) := propext (fa_wide_lt 5 a)
theorem wd99 (a : Int32) : (99 < a.toInt64) = (99 < a) := propext (fa_wide_lt 99 a)
theorem in_nI {m : Nat} {a : Int32} (hm : m ≤ 8) (h0 : ¬ a < 0) (h1 : ¬ nI m ≤ a) : ∃ j, j < m ∧ a = nI j := by
  rw [fa_lt] at h0
  rw [fa_le, nI_toInt (by omega)] at h1
  have z : (0 : Int32).toInt = 0 := rfl
  refine ⟨a.toInt.toNat, by omega, ?_⟩
  apply Int32.toInt_inj.mp
  rw [nI_toInt (by omega)]
  omega
theorem in_bd {a : Int32} {k : Int32} (h0 : ¬ a < 0) (h1 : ¬ k < a) : 0 ≤ a.toInt ∧ a.toInt ≤ k.toInt := by
  rw [fa_lt] at h0 h1
  have z : (0 : Int32).toInt = 0 := rfl
  omega
theorem P_house (a b : Int32) : Pr 41 90 [.int a, .int b] := by
  intro h hR
  have hR0 := hR
  obtain ⟨m, l, ik, pu, ye, ki, as, ow, ca, sh, ah, n2, pu2, ye2, ki2, as2, ow2, ca2, sh2, ah2, n3, pu3, ye3, ki3, as3, ow3, ca3, sh3, ah3, be, re, op, sz, ab, ak, ro, pt, bt, fi, si, th0, la0, le0, it0, th1, la1, le1, it1, th2, la2, le2, it2, th3, la3, le3, it3, ax, wr, bm, kn, pr, kiM, asM, owM, caM, shM, tp, rd, rs, rw, su, abM, kp, tn, td, fs, ss, ig, lns, szs, its, mv, c0, c1, c2, c3, c4, c5, c6, c7, c8, c9, c10, c11, c12, c13, c14, c15, c16, c17, c18, c19, c20, c21, c22, c23, c24, c25, c26, c27, c28, c29, c30, c31, c32, c33, c34, c35, c36, c37, c38, c39, c40, c41, c42, c43, c44, c45, c46, c47, c48, c49, c50, c51, c52, c53, c54, c55, c56, c57, c58, c59, c60, hRl, hTp⟩ := RR_out hR
  obtain ⟨hS, hV1, hV2, hV3, hV4⟩ := hR
  have hm : m ≤ 8 := hRl.1
  have bad : (∃ x : Int32, some (Value.int (-1)) = some (.int x) ∧ some (Value.int (-1)) = some (.int x)) ∧ RR h := ⟨⟨_, rfl, rfl⟩, hR0⟩
  simp only [eC_house, qC_house_0, jC_house_0, qC_house_16, jC_house_16, qC_house_18, jC_house_18, qC_house_33, jC_house_33, eM_house, qM_house_0, jM_house_0, qM_house_24, jM_house_24, qM_house_26, jM_house_26, qM_house_38, jM_house_38, w0, w1, w2i, w2r, w3, w4, w5_0, w5_1, w5_2, w5_3, w5_4, w5_5, w5_6, w5_7, w5_8, w6_0, w6_1, w7_0, w7_1, w7_2, w7_3, w7_4, w7_5, w8_0, w8_1, w9_0, w9_1, w9_2, w10_0, w10_1, w10_2, w10_3, w10_4, w10_5, w11, w12_0, w12_1, w12_2, w12_3, w12_4, w12_5, w13_0, w13_1, w13_2, w13_3, w13_4, w13_5, w14, w15i, w15r, w16, w17, w18, w19i, w19z, w19l, w20, w21, w22, w23, w24, w25, w26, w27, w28_1, w28_2, w28_3, w28_4, w28_5, w28_6, w29, w30i, w30z, w31, w32, w33, w34, w35, w36, w37_1, w37_2, w37_3, w37_4, w37_5, w37_6, isO_O, set1_0, set1_1i, set1_1r, set1_1n, set1_1l, set1_s, set2_0, set2_1i, set2_1r, set2_1n, set2_1l, set2_s, ldv_i, ldv_l, ldv_r, ldv_s, ldi_i, ldi_s, fK_0, fK_s, gfc_O, fS_0, fS_s, uH_s, uH_n, uH_u, tl_s, tl_n, b1_0, b1_1, ite_true, ite_false, if_true, if_false, List.length_nil, List.length_cons, Nat.zero_le, Nat.zero_add, Nat.reduceAdd, Nat.reduceLeDiff, Nat.reduceLT, Nat.reduceEqDiff, Nat.reduceMul, Nat.add_left_cancel_iff, not_false_eq_true, c0, c1, c39, C_isPence, M_in, wd0, wd3, wd99, z01, ne_eq]
  trace_state
  sorry

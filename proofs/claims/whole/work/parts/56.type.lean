/-! the pairs: type -/
def zL (w : Int64) (k : Nat) : Int64 := (w >>> ((8 * nI k).toInt64 &&& 63)) &&& 255
def bN (w : Int64) (k : Nat) : Nat := (zL w k).toBitVec.toNat
theorem bN_lt (w : Int64) (k : Nat) : bN w k < 256 := by
  unfold bN zL
  rw [Int64.toBitVec_and, BitVec.toNat_and]
  exact Nat.lt_of_le_of_lt Nat.and_le_right (by decide)
theorem zL_lN (w : Int64) (k : Nat) : zL w k = lN (bN w k) := by
  apply Int64.toBitVec_inj.mp
  show (zL w k).toBitVec = BitVec.ofNat 64 (bN w k)
  unfold bN
  rw [BitVec.ofNat_toNat, BitVec.setWidth_eq]
theorem by_eq (w : Int64) {k : Nat} (hk : k < 8) : (w.toUInt64 >>> ((8 * nI k).toInt64.toUInt64 &&& Int64.toUInt64 63)).toInt64 &&& 255 = zL w k := by
  have s1 : ∀ k, k < 8 → (((8 * nI k).toInt64 &&& 63).toBitVec.smod 64).toNat = 8 * k := by decide +kernel
  have s2 : ∀ k, k < 8 → (((8 * nI k).toInt64.toUInt64 &&& Int64.toUInt64 63).toBitVec % 64).toNat = 8 * k := by decide +kernel
  have h1 : (w.toUInt64 >>> ((8 * nI k).toInt64.toUInt64 &&& Int64.toUInt64 63)).toInt64.toBitVec = w.toBitVec >>> (8 * k) := by
    rw [← s2 k hk]; rfl
  have h2 : (w >>> ((8 * nI k).toInt64 &&& 63)).toBitVec = w.toBitVec.sshiftRight (8 * k) := by
    rw [← s1 k hk]; rfl
  unfold zL
  apply Int64.toBitVec_inj.mp
  rw [Int64.toBitVec_and, Int64.toBitVec_and, h1, h2]
  apply BitVec.eq_of_getLsbD_eq
  intro i hi
  rw [BitVec.getLsbD_and, BitVec.getLsbD_and, BitVec.getLsbD_ushiftRight, BitVec.getLsbD_sshiftRight]
  by_cases h8 : i < 8
  · have e1 : ¬ (64 ≤ i) := by omega
    have e2 : 8 * k + i < 64 := by omega
    simp [e1, e2]
  · have e3 : (255 : Int64).toBitVec.getLsbD i = false := by
      show (BitVec.ofNat 64 255).getLsbD i = false
      rw [BitVec.getLsbD_ofNat, show (255 : Nat) = 2 ^ 8 - 1 from rfl, Nat.testBit_two_pow_sub_one]
      simp [h8]
    rw [e3, Bool.and_false, Bool.and_false]
theorem lN_i32 : ∀ n, n < 256 → (lN n).toInt32 = nI n := by decide +kernel
theorem lN_bd : ∀ n, n < 256 → ((lN n < 32 ∨ 126 < lN n) ↔ ¬ (32 ≤ n ∧ n ≤ 126)) := by decide +kernel
theorem nI_c1 : ∀ n, n < 256 → ((nI n < 32) ↔ ¬ 32 ≤ n) := by decide +kernel
theorem nI_c2 : ∀ n, n < 256 → ((nI n ≤ 126) ↔ n ≤ 126) := by decide +kernel
def bok (w : Int64) (k : Nat) : Prop := 32 ≤ bN w k ∧ bN w k ≤ 126
/-- the lowest i bytes, behind place p, the highest first -/
def apT (f : Nat → Int32) (w : Int64) (p : Nat) : Nat → Nat → Int32
  | 0 => f
  | i + 1 => apT (upd f p (nI (bN w i))) w (p + 1) i
theorem Tp_ap (w : Int64) : ∀ (i l : Nat) (bt tp : Nat → Int32), (∀ k, k < i → bok w k) → l + i ≤ 100 → Tp l bt tp → Tp (l + i) (apT bt w l i) (apT tp w l i)
  | 0, l, bt, tp, _, _, h => h
  | i + 1, l, bt, tp, hb, hl, h => by
    have h2 := Tp_ap w i (l + 1) (upd bt l (nI (bN w i))) (upd tp l (nI (bN w i))) (fun k hk => hb k (by omega)) (by omega) ⟨by omega, fun k hk => by
      by_cases e : k = l
      · have := hb i (by omega)
        unfold bok at this
        rw [e, upd_s, upd_s, nI_toInt (by omega)]
        exact ⟨rfl, by omega, by omega⟩
      · rw [upd_n e, upd_n e]; exact h.2 k (by omega)⟩
    rw [show l + (i + 1) = l + 1 + i by omega]
    exact h2
theorem uH4 (h : AH) {a b : Nat} (A B C D : AC) (hab : a ≠ b) : uH (uH (uH (uH h a A) b B) a C) b D = uH (uH h a C) b D := by
  rw [uH_c (uH h a A) B C (fun z => hab z.symm), uH_u, uH_u]
section TYPE
variable {h : AH} {Q : Option Value → AH → Prop} {w : Int64}
theorem C_byteOf' {k : Nat} (hk : k < 8) : WpM 77 [.long w, .int (nI k)] h Q = Q (some (.int (nI (bN w k)))) h := by
  rw [C_byteOf, by_eq w hk, zL_lN, lN_i32 _ (bN_lt w k)]
theorem C_areSigns_1 {N : Nat} (hN : N ≤ 8) (hb : ∀ k, k < N → bok w k) : ∀ (d i : Nat) (x : Option Value), i + d = N → Wp none 76 qC_areSigns_2 [some (.long w), none, some (.int (nI N)), some (.int (nI i)), x] [] h Q = Q (some (.int 1)) h := by
  intro d
  induction d with
  | zero =>
    intro i x hi
    have e : i = N := by omega
    subst e
    have hc : nI i ≤ nI i := nI_le (Nat.le_refl i) (by omega)
    simp only [qC_areSigns_2, qC_areSigns_36, jC_areSigns_36, w0, w1, w2i, w2r, w3, w4, w5_0, w5_1, w5_2, w5_3, w5_4, w5_5, w5_6, w5_7, w5_8, w6_0, w6_1, w7_0, w7_1, w7_2, w7_3, w7_4, w7_5, w8_0, w8_1, w9_0, w9_1, w9_2, w10_0, w10_1, w10_2, w10_3, w10_4, w10_5, w11, w12_0, w12_1, w12_2, w12_3, w12_4, w12_5, w13_0, w13_1, w13_2, w13_3, w13_4, w13_5, w14, w15i, w15r, w16, w17, w18, w19i, w19z, w19l, w20, w21, w22, w23, w24, w25, w26, w27, w28_1, w28_2, w28_3, w28_4, w28_5, w28_6, w29, w30i, w30z, w31, w32, w33, w34, w35, w36, w37_1, w37_2, w37_3, w37_4, w37_5, w37_6, isO_O, set1_0, set1_1i, set1_1r, set1_1n, set1_1l, set1_s, set2_0, set2_1i, set2_1r, set2_1n, set2_1l, set2_s, ldv_i, ldv_l, ldv_r, ldv_s, ldi_i, ldi_s, fK_0, fK_s, gfc_O, fS_0, fS_s, uH_s, uH_n, uH_u, tl_s, tl_n, b1_0, b1_1, ite_true, ite_false, if_true, if_false, List.length_nil, List.length_cons, Nat.zero_le, Nat.zero_add, Nat.reduceAdd, Nat.reduceLeDiff, Nat.reduceLT, Nat.reduceEqDiff, Nat.reduceMul, Nat.add_left_cancel_iff, not_false_eq_true, hc]
  | succ d ih =>
    intro i x hi
    have hc : ¬ nI N ≤ nI i := nI_ge (by omega) (by omega)
    have b := hb i (by omega)
    have c1 : ¬ nI (bN w i) < 32 := fun z => (nI_c1 _ (bN_lt w i)).mp z b.1
    have c2 : nI (bN w i) ≤ 126 := (nI_c2 _ (bN_lt w i)).mpr b.2
    rw [qC_areSigns_2]
    simp only [qC_areSigns_30, jC_areSigns_30, jC_areSigns_2, w0, w1, w2i, w2r, w3, w4, w5_0, w5_1, w5_2, w5_3, w5_4, w5_5, w5_6, w5_7, w5_8, w6_0, w6_1, w7_0, w7_1, w7_2, w7_3, w7_4, w7_5, w8_0, w8_1, w9_0, w9_1, w9_2, w10_0, w10_1, w10_2, w10_3, w10_4, w10_5, w11, w12_0, w12_1, w12_2, w12_3, w12_4, w12_5, w13_0, w13_1, w13_2, w13_3, w13_4, w13_5, w14, w15i, w15r, w16, w17, w18, w19i, w19z, w19l, w20, w21, w22, w23, w24, w25, w26, w27, w28_1, w28_2, w28_3, w28_4, w28_5, w28_6, w29, w30i, w30z, w31, w32, w33, w34, w35, w36, w37_1, w37_2, w37_3, w37_4, w37_5, w37_6, isO_O, set1_0, set1_1i, set1_1r, set1_1n, set1_1l, set1_s, set2_0, set2_1i, set2_1r, set2_1n, set2_1l, set2_s, ldv_i, ldv_l, ldv_r, ldv_s, ldi_i, ldi_s, fK_0, fK_s, gfc_O, fS_0, fS_s, uH_s, uH_n, uH_u, tl_s, tl_n, b1_0, b1_1, ite_true, ite_false, if_true, if_false, List.length_nil, List.length_cons, Nat.zero_le, Nat.zero_add, Nat.reduceAdd, Nat.reduceLeDiff, Nat.reduceLT, Nat.reduceEqDiff, Nat.reduceMul, Nat.add_left_cancel_iff, not_false_eq_true, hc, C_byteOf' (show i < 8 by omega), c1, c2, nI_1]
    exact ih (i + 1) _ (by omega)
theorem C_areSigns_0 {N j : Nat} (hN : N ≤ 8) (hj : j < N) (hb : ∀ k, k < j → bok w k) (hn : ¬ bok w j) : ∀ (d i : Nat) (x : Option Value), i + d = j → Wp none 76 qC_areSigns_2 [some (.long w), none, some (.int (nI N)), some (.int (nI i)), x] [] h Q = Q (some (.int 0)) h := by
  intro d
  induction d with
  | zero =>
    intro i x hi
    have e : i = j := by omega
    subst e
    have hc : ¬ nI N ≤ nI i := nI_ge (by omega) (by omega)
    rw [qC_areSigns_2]
    simp only [qC_areSigns_28, jC_areSigns_28, qC_areSigns_30, jC_areSigns_30, w0, w1, w2i, w2r, w3, w4, w5_0, w5_1, w5_2, w5_3, w5_4, w5_5, w5_6, w5_7, w5_8, w6_0, w6_1, w7_0, w7_1, w7_2, w7_3, w7_4, w7_5, w8_0, w8_1, w9_0, w9_1, w9_2, w10_0, w10_1, w10_2, w10_3, w10_4, w10_5, w11, w12_0, w12_1, w12_2, w12_3, w12_4, w12_5, w13_0, w13_1, w13_2, w13_3, w13_4, w13_5, w14, w15i, w15r, w16, w17, w18, w19i, w19z, w19l, w20, w21, w22, w23, w24, w25, w26, w27, w28_1, w28_2, w28_3, w28_4, w28_5, w28_6, w29, w30i, w30z, w31, w32, w33, w34, w35, w36, w37_1, w37_2, w37_3, w37_4, w37_5, w37_6, isO_O, set1_0, set1_1i, set1_1r, set1_1n, set1_1l, set1_s, set2_0, set2_1i, set2_1r, set2_1n, set2_1l, set2_s, ldv_i, ldv_l, ldv_r, ldv_s, ldi_i, ldi_s, fK_0, fK_s, gfc_O, fS_0, fS_s, uH_s, uH_n, uH_u, tl_s, tl_n, b1_0, b1_1, ite_true, ite_false, if_true, if_false, List.length_nil, List.length_cons, Nat.zero_le, Nat.zero_add, Nat.reduceAdd, Nat.reduceLeDiff, Nat.reduceLT, Nat.reduceEqDiff, Nat.reduceMul, Nat.add_left_cancel_iff, not_false_eq_true, hc, C_byteOf' (show i < 8 by omega)]
    by_cases c1 : nI (bN w i) < 32
    · simp only [c1, if_true]
    · have c2 : ¬ nI (bN w i) ≤ 126 := fun z => hn ⟨Classical.byContradiction fun y => c1 ((nI_c1 _ (bN_lt w i)).mpr y), (nI_c2 _ (bN_lt w i)).mp z⟩
      simp only [c1, c2, if_false]
  | succ d ih =>
    intro i x hi
    have hc : ¬ nI N ≤ nI i := nI_ge (by omega) (by omega)
    have b := hb i (by omega)
    have c1 : ¬ nI (bN w i) < 32 := fun z => (nI_c1 _ (bN_lt w i)).mp z b.1
    have c2 : nI (bN w i) ≤ 126 := (nI_c2 _ (bN_lt w i)).mpr b.2
    rw [qC_areSigns_2]
    simp only [qC_areSigns_30, jC_areSigns_30, jC_areSigns_2, w0, w1, w2i, w2r, w3, w4, w5_0, w5_1, w5_2, w5_3, w5_4, w5_5, w5_6, w5_7, w5_8, w6_0, w6_1, w7_0, w7_1, w7_2, w7_3, w7_4, w7_5, w8_0, w8_1, w9_0, w9_1, w9_2, w10_0, w10_1, w10_2, w10_3, w10_4, w10_5, w11, w12_0, w12_1, w12_2, w12_3, w12_4, w12_5, w13_0, w13_1, w13_2, w13_3, w13_4, w13_5, w14, w15i, w15r, w16, w17, w18, w19i, w19z, w19l, w20, w21, w22, w23, w24, w25, w26, w27, w28_1, w28_2, w28_3, w28_4, w28_5, w28_6, w29, w30i, w30z, w31, w32, w33, w34, w35, w36, w37_1, w37_2, w37_3, w37_4, w37_5, w37_6, isO_O, set1_0, set1_1i, set1_1r, set1_1n, set1_1l, set1_s, set2_0, set2_1i, set2_1r, set2_1n, set2_1l, set2_s, ldv_i, ldv_l, ldv_r, ldv_s, ldi_i, ldi_s, fK_0, fK_s, gfc_O, fS_0, fS_s, uH_s, uH_n, uH_u, tl_s, tl_n, b1_0, b1_1, ite_true, ite_false, if_true, if_false, List.length_nil, List.length_cons, Nat.zero_le, Nat.zero_add, Nat.reduceAdd, Nat.reduceLeDiff, Nat.reduceLT, Nat.reduceEqDiff, Nat.reduceMul, Nat.add_left_cancel_iff, not_false_eq_true, hc, C_byteOf' (show i < 8 by omega), c1, c2, nI_1]
    exact ih (i + 1) _ (by omega)
theorem C_areSigns {N : Nat} (hN : N ≤ 8) (r : Int32) (hr : ((∀ k, k < N → bok w k) ∧ r = 1) ∨ ((∃ k, k < N ∧ ¬ bok w k) ∧ r = 0)) : WpM 76 [.long w, .int (nI N)] h Q = Q (some (.int r)) h := by
  rw [eC_areSigns]
  simp only [qC_areSigns_0, w0, w1, w2i, w2r, w3, w4, w5_0, w5_1, w5_2, w5_3, w5_4, w5_5, w5_6, w5_7, w5_8, w6_0, w6_1, w7_0, w7_1, w7_2, w7_3, w7_4, w7_5, w8_0, w8_1, w9_0, w9_1, w9_2, w10_0, w10_1, w10_2, w10_3, w10_4, w10_5, w11, w12_0, w12_1, w12_2, w12_3, w12_4, w12_5, w13_0, w13_1, w13_2, w13_3, w13_4, w13_5, w14, w15i, w15r, w16, w17, w18, w19i, w19z, w19l, w20, w21, w22, w23, w24, w25, w26, w27, w28_1, w28_2, w28_3, w28_4, w28_5, w28_6, w29, w30i, w30z, w31, w32, w33, w34, w35, w36, w37_1, w37_2, w37_3, w37_4, w37_5, w37_6, isO_O, set1_0, set1_1i, set1_1r, set1_1n, set1_1l, set1_s, set2_0, set2_1i, set2_1r, set2_1n, set2_1l, set2_s, ldv_i, ldv_l, ldv_r, ldv_s, ldi_i, ldi_s, fK_0, fK_s, gfc_O, fS_0, fS_s, uH_s, uH_n, uH_u, tl_s, tl_n, b1_0, b1_1, ite_true, ite_false, if_true, if_false, List.length_nil, List.length_cons, Nat.zero_le, Nat.zero_add, Nat.reduceAdd, Nat.reduceLeDiff, Nat.reduceLT, Nat.reduceEqDiff, Nat.reduceMul, Nat.add_left_cancel_iff, not_false_eq_true]
  rcases hr with ⟨h1, rfl⟩ | ⟨h1, rfl⟩
  · exact C_areSigns_1 hN h1 N 0 _ (by omega)
  · have dp : DecidablePred (fun k => ¬ bok w k) := fun k => Classical.propDecidable _
    obtain ⟨j, j1, j2, j3⟩ := fb_first (p := fun k => ¬ bok w k) h1
    exact C_areSigns_0 hN j1 (fun k hk => Classical.byContradiction (j3 k hk)) j2 j 0 _ (by omega)
theorem M_type_1 {l N : Nat} {pu ye ho bo ax wr : Int32} {be : Int64} {kn pr im : Int32} (hN : N ≤ 8) (hb : ∀ k, k < N → bok w k) : ∀ (d i : Nat), i + d = N → Wp none 102 qM_type_17 [some (.ref 39), some (.long w), none, some (.int (nI N)), some (.int (nI i))] [] h Q = Wp none 102 qM_type_54 [some (.ref 39), some (.long w), none, some (.int (nI N)), some (.int (nI N))] [] h Q := by
  intro d
  induction d with
  | zero =>
    intro i hi
    have e : i = N := by omega
    subst e
    have hc : nI i ≤ nI i := nI_le (Nat.le_refl i) (by omega)
    rw [qM_type_17]
    simp only [jM_type_54, w0, w1, w2i, w2r, w3, w4, w5_0, w5_1, w5_2, w5_3, w5_4, w5_5, w5_6, w5_7, w5_8, w6_0, w6_1, w7_0, w7_1, w7_2, w7_3, w7_4, w7_5, w8_0, w8_1, w9_0, w9_1, w9_2, w10_0, w10_1, w10_2, w10_3, w10_4, w10_5, w11, w12_0, w12_1, w12_2, w12_3, w12_4, w12_5, w13_0, w13_1, w13_2, w13_3, w13_4, w13_5, w14, w15i, w15r, w16, w17, w18, w19i, w19z, w19l, w20, w21, w22, w23, w24, w25, w26, w27, w28_1, w28_2, w28_3, w28_4, w28_5, w28_6, w29, w30i, w30z, w31, w32, w33, w34, w35, w36, w37_1, w37_2, w37_3, w37_4, w37_5, w37_6, isO_O, set1_0, set1_1i, set1_1r, set1_1n, set1_1l, set1_s, set2_0, set2_1i, set2_1r, set2_1n, set2_1l, set2_s, ldv_i, ldv_l, ldv_r, ldv_s, ldi_i, ldi_s, fK_0, fK_s, gfc_O, fS_0, fS_s, uH_s, uH_n, uH_u, tl_s, tl_n, b1_0, b1_1, ite_true, ite_false, if_true, if_false, List.length_nil, List.length_cons, Nat.zero_le, Nat.zero_add, Nat.reduceAdd, Nat.reduceLeDiff, Nat.reduceLT, Nat.reduceEqDiff, Nat.reduceMul, Nat.add_left_cancel_iff, not_false_eq_true, hc]
  | succ d ih =>
    intro i hi
    have hc : ¬ nI N ≤ nI i := nI_ge (by omega) (by omega)
    have b : ¬ (lN (bN w i) < 32 ∨ 126 < lN (bN w i)) := fun z => (lN_bd _ (bN_lt w i)).mp z (hb i (by omega))
    have ez : w >>> ((8 * nI i).toInt64 &&& 63) &&& 255 = lN (bN w i) := zL_lN w i
    rw [qM_type_17]
    simp only [qM_type_48, jM_type_48, jM_type_17, w0, w1, w2i, w2r, w3, w4, w5_0, w5_1, w5_2, w5_3, w5_4, w5_5, w5_6, w5_7, w5_8, w6_0, w6_1, w7_0, w7_1, w7_2, w7_3, w7_4, w7_5, w8_0, w8_1, w9_0, w9_1, w9_2, w10_0, w10_1, w10_2, w10_3, w10_4, w10_5, w11, w12_0, w12_1, w12_2, w12_3, w12_4, w12_5, w13_0, w13_1, w13_2, w13_3, w13_4, w13_5, w14, w15i, w15r, w16, w17, w18, w19i, w19z, w19l, w20, w21, w22, w23, w24, w25, w26, w27, w28_1, w28_2, w28_3, w28_4, w28_5, w28_6, w29, w30i, w30z, w31, w32, w33, w34, w35, w36, w37_1, w37_2, w37_3, w37_4, w37_5, w37_6, isO_O, set1_0, set1_1i, set1_1r, set1_1n, set1_1l, set1_s, set2_0, set2_1i, set2_1r, set2_1n, set2_1l, set2_s, ldv_i, ldv_l, ldv_r, ldv_s, ldi_i, ldi_s, fK_0, fK_s, gfc_O, fS_0, fS_s, uH_s, uH_n, uH_u, tl_s, tl_n, b1_0, b1_1, ite_true, ite_false, if_true, if_false, List.length_nil, List.length_cons, Nat.zero_le, Nat.zero_add, Nat.reduceAdd, Nat.reduceLeDiff, Nat.reduceLT, Nat.reduceEqDiff, Nat.reduceMul, Nat.add_left_cancel_iff, not_false_eq_true, hc, ez, M_in, z01, ne_eq, b, nI_1]
    exact ih (i + 1) (by omega)
theorem M_type_0 {N j : Nat} (hN : N ≤ 8) (hj : j < N) (hb : ∀ k, k < j → bok w k) (hn : ¬ bok w j) : ∀ (d i : Nat), i + d = j → Wp none 102 qM_type_17 [some (.ref 39), some (.long w), none, some (.int (nI N)), some (.int (nI i))] [] h Q = Q (some (.int (-1))) h := by
  intro d
  induction d with
  | zero =>
    intro i hi
    have e : i = j := by omega
    subst e
    have hc : ¬ nI N ≤ nI i := nI_ge (by omega) (by omega)
    have b : (lN (bN w i) < 32 ∨ 126 < lN (bN w i)) := (lN_bd _ (bN_lt w i)).mpr hn
    have ez : w >>> ((8 * nI i).toInt64 &&& 63) &&& 255 = lN (bN w i) := zL_lN w i
    rw [qM_type_17]
    simp only [w0, w1, w2i, w2r, w3, w4, w5_0, w5_1, w5_2, w5_3, w5_4, w5_5, w5_6, w5_7, w5_8, w6_0, w6_1, w7_0, w7_1, w7_2, w7_3, w7_4, w7_5, w8_0, w8_1, w9_0, w9_1, w9_2, w10_0, w10_1, w10_2, w10_3, w10_4, w10_5, w11, w12_0, w12_1, w12_2, w12_3, w12_4, w12_5, w13_0, w13_1, w13_2, w13_3, w13_4, w13_5, w14, w15i, w15r, w16, w17, w18, w19i, w19z, w19l, w20, w21, w22, w23, w24, w25, w26, w27, w28_1, w28_2, w28_3, w28_4, w28_5, w28_6, w29, w30i, w30z, w31, w32, w33, w34, w35, w36, w37_1, w37_2, w37_3, w37_4, w37_5, w37_6, isO_O, set1_0, set1_1i, set1_1r, set1_1n, set1_1l, set1_s, set2_0, set2_1i, set2_1r, set2_1n, set2_1l, set2_s, ldv_i, ldv_l, ldv_r, ldv_s, ldi_i, ldi_s, fK_0, fK_s, gfc_O, fS_0, fS_s, uH_s, uH_n, uH_u, tl_s, tl_n, b1_0, b1_1, ite_true, ite_false, if_true, if_false, List.length_nil, List.length_cons, Nat.zero_le, Nat.zero_add, Nat.reduceAdd, Nat.reduceLeDiff, Nat.reduceLT, Nat.reduceEqDiff, Nat.reduceMul, Nat.add_left_cancel_iff, not_false_eq_true, hc, ez, M_in, z01, ne_eq, b, not_true_eq_false]
  | succ d ih =>
    intro i hi
    have hc : ¬ nI N ≤ nI i := nI_ge (by omega) (by omega)
    have b : ¬ (lN (bN w i) < 32 ∨ 126 < lN (bN w i)) := fun z => (lN_bd _ (bN_lt w i)).mp z (hb i (by omega))
    have ez : w >>> ((8 * nI i).toInt64 &&& 63) &&& 255 = lN (bN w i) := zL_lN w i
    rw [qM_type_17]
    simp only [qM_type_48, jM_type_48, jM_type_17, w0, w1, w2i, w2r, w3, w4, w5_0, w5_1, w5_2, w5_3, w5_4, w5_5, w5_6, w5_7, w5_8, w6_0, w6_1, w7_0, w7_1, w7_2, w7_3, w7_4, w7_5, w8_0, w8_1, w9_0, w9_1, w9_2, w10_0, w10_1, w10_2, w10_3, w10_4, w10_5, w11, w12_0, w12_1, w12_2, w12_3, w12_4, w12_5, w13_0, w13_1, w13_2, w13_3, w13_4, w13_5, w14, w15i, w15r, w16, w17, w18, w19i, w19z, w19l, w20, w21, w22, w23, w24, w25, w26, w27, w28_1, w28_2, w28_3, w28_4, w28_5, w28_6, w29, w30i, w30z, w31, w32, w33, w34, w35, w36, w37_1, w37_2, w37_3, w37_4, w37_5, w37_6, isO_O, set1_0, set1_1i, set1_1r, set1_1n, set1_1l, set1_s, set2_0, set2_1i, set2_1r, set2_1n, set2_1l, set2_s, ldv_i, ldv_l, ldv_r, ldv_s, ldi_i, ldi_s, fK_0, fK_s, gfc_O, fS_0, fS_s, uH_s, uH_n, uH_u, tl_s, tl_n, b1_0, b1_1, ite_true, ite_false, if_true, if_false, List.length_nil, List.length_cons, Nat.zero_le, Nat.zero_add, Nat.reduceAdd, Nat.reduceLeDiff, Nat.reduceLT, Nat.reduceEqDiff, Nat.reduceMul, Nat.add_left_cancel_iff, not_false_eq_true, hc, ez, M_in, z01, ne_eq, b, nI_1]
    exact ih (i + 1) (by omega)
theorem nI_m1 : ∀ i, i < 9 → ((nI i - 1 < 0) ↔ i = 0) := by decide
theorem nI_dn (i : Nat) : nI i + (-1) = nI i - 1 := by rw [Int32.sub_eq_add_neg]
theorem nar_b : ∀ n, n < 127 → vp_nar .byte (nI n).toInt8.toInt32 = nI n := by
  intro n hn
  rw [fa_byte_small (by omega)]
  show (nI n).toInt8.toInt32 = nI n
  exact fa_byte_small (by omega)
theorem P_append_loop {N : Int32} {pt : Int32} : ∀ (i p : Nat) (f : Nat → Int32) (h : AH), i ≤ 8 → p + i ≤ 100 → (∀ k, k < i → bok w k) → h 26 = aO 2 [.ref 27, .int (nI p), .int pt] → h 27 = aB 100 f → Wp none 14 qP_append_5 [some (.ref 26), some (.long w), none, some (.int N), some (.int (nI i - 1))] [] h Q = Q none (uH (uH h 27 (aB 100 (apT f w p i))) 26 (aO 2 [.ref 27, .int (nI (p + i)), .int pt])) := by
  intro i
  induction i with
  | zero =>
    intro p f h _ _ _ h26 h27
    have hc : nI 0 - 1 < 0 := by decide
    simp only [qP_append_5, qP_append_42, jP_append_42, w0, w1, w2i, w2r, w3, w4, w5_0, w5_1, w5_2, w5_3, w5_4, w5_5, w5_6, w5_7, w5_8, w6_0, w6_1, w7_0, w7_1, w7_2, w7_3, w7_4, w7_5, w8_0, w8_1, w9_0, w9_1, w9_2, w10_0, w10_1, w10_2, w10_3, w10_4, w10_5, w11, w12_0, w12_1, w12_2, w12_3, w12_4, w12_5, w13_0, w13_1, w13_2, w13_3, w13_4, w13_5, w14, w15i, w15r, w16, w17, w18, w19i, w19z, w19l, w20, w21, w22, w23, w24, w25, w26, w27, w28_1, w28_2, w28_3, w28_4, w28_5, w28_6, w29, w30i, w30z, w31, w32, w33, w34, w35, w36, w37_1, w37_2, w37_3, w37_4, w37_5, w37_6, isO_O, set1_0, set1_1i, set1_1r, set1_1n, set1_1l, set1_s, set2_0, set2_1i, set2_1r, set2_1n, set2_1l, set2_s, ldv_i, ldv_l, ldv_r, ldv_s, ldi_i, ldi_s, fK_0, fK_s, gfc_O, fS_0, fS_s, uH_s, uH_n, uH_u, tl_s, tl_n, b1_0, b1_1, ite_true, ite_false, if_true, if_false, List.length_nil, List.length_cons, Nat.zero_le, Nat.zero_add, Nat.reduceAdd, Nat.reduceLeDiff, Nat.reduceLT, Nat.reduceEqDiff, Nat.reduceMul, Nat.add_left_cancel_iff, not_false_eq_true, hc]
    rw [show apT f w p 0 = f from rfl, Nat.add_zero, uH_id h h27, uH_id h h26]
  | succ i ih =>
    intro p f h h8 hp hb h26 h27
    have hc : ¬ (nI i < 0) := by rw [fa_lt, nI_toInt (by omega)]; have : (0 : Int32).toInt = 0 := rfl; omega
    have b := hb i (by omega)
    have nb := nar_b (bN w i) (by have := b.2; omega)
    rw [qP_append_5]
    simp only [jP_append_5, w0, w1, w2i, w2r, w3, w4, w5_0, w5_1, w5_2, w5_3, w5_4, w5_5, w5_6, w5_7, w5_8, w6_0, w6_1, w7_0, w7_1, w7_2, w7_3, w7_4, w7_5, w8_0, w8_1, w9_0, w9_1, w9_2, w10_0, w10_1, w10_2, w10_3, w10_4, w10_5, w11, w12_0, w12_1, w12_2, w12_3, w12_4, w12_5, w13_0, w13_1, w13_2, w13_3, w13_4, w13_5, w14, w15i, w15r, w16, w17, w18, w19i, w19z, w19l, w20, w21, w22, w23, w24, w25, w26, w27, w28_1, w28_2, w28_3, w28_4, w28_5, w28_6, w29, w30i, w30z, w31, w32, w33, w34, w35, w36, w37_1, w37_2, w37_3, w37_4, w37_5, w37_6, isO_O, set1_0, set1_1i, set1_1r, set1_1n, set1_1l, set1_s, set2_0, set2_1i, set2_1r, set2_1n, set2_1l, set2_s, ldv_i, ldv_l, ldv_r, ldv_s, ldi_i, ldi_s, fK_0, fK_s, gfc_O, fS_0, fS_s, uH_s, uH_n, uH_u, tl_s, tl_n, b1_0, b1_1, ite_true, ite_false, if_true, if_false, List.length_nil, List.length_cons, Nat.zero_le, Nat.zero_add, Nat.reduceAdd, Nat.reduceLeDiff, Nat.reduceLT, Nat.reduceEqDiff, Nat.reduceMul, Nat.add_left_cancel_iff, not_false_eq_true, nI_p1, hc, h26, h27, C_byteOf' (show i < 8 by omega), wBc_n (show p < 100 by omega) (show 100 < 2 ^ 31 by decide), nb, pfc_O, nI_1, nI_dn]
    rw [ih (p + 1) (upd f p (nI (bN w i))) _ (by omega) (by omega) (fun k hk => hb k (by omega)) (by rw [uH_s]) (by rw [uH_n _ _ (by decide), uH_s]), uH4 _ _ _ _ _ (by decide), show p + 1 + i = p + (i + 1) by omega]
    rfl
theorem M_type_ap {N : Int32} {ho pu ye bo ax wr : Int32} {be : Int64} {kn pr im : Int32} : ∀ (i p : Nat) (f : Nat → Int32) (h : AH), i ≤ 8 → p + i ≤ 100 → (∀ k, k < i → bok w k) → h 39 = mO ho pu ye bo (nI p) ax wr be kn pr im → h 45 = aI 100 f → Wp none 102 qM_type_73 [some (.ref 39), some (.long w), none, some (.int N), some (.int (nI i - 1))] [] h Q = Q (some (.int (nI (p + i)))) (uH (uH h 45 (aI 100 (apT f w p i))) 39 (mO ho pu ye bo (nI (p + i)) ax wr be kn pr im)) := by
  intro i
  induction i with
  | zero =>
    intro p f h _ _ _ h39 h45
    have hc : nI 0 - 1 < 0 := by decide
    simp only [qM_type_73, qM_type_115, jM_type_115, w0, w1, w2i, w2r, w3, w4, w5_0, w5_1, w5_2, w5_3, w5_4, w5_5, w5_6, w5_7, w5_8, w6_0, w6_1, w7_0, w7_1, w7_2, w7_3, w7_4, w7_5, w8_0, w8_1, w9_0, w9_1, w9_2, w10_0, w10_1, w10_2, w10_3, w10_4, w10_5, w11, w12_0, w12_1, w12_2, w12_3, w12_4, w12_5, w13_0, w13_1, w13_2, w13_3, w13_4, w13_5, w14, w15i, w15r, w16, w17, w18, w19i, w19z, w19l, w20, w21, w22, w23, w24, w25, w26, w27, w28_1, w28_2, w28_3, w28_4, w28_5, w28_6, w29, w30i, w30z, w31, w32, w33, w34, w35, w36, w37_1, w37_2, w37_3, w37_4, w37_5, w37_6, isO_O, set1_0, set1_1i, set1_1r, set1_1n, set1_1l, set1_s, set2_0, set2_1i, set2_1r, set2_1n, set2_1l, set2_s, ldv_i, ldv_l, ldv_r, ldv_s, ldi_i, ldi_s, fK_0, fK_s, gfc_O, fS_0, fS_s, uH_s, uH_n, uH_u, tl_s, tl_n, b1_0, b1_1, ite_true, ite_false, if_true, if_false, List.length_nil, List.length_cons, Nat.zero_le, Nat.zero_add, Nat.reduceAdd, Nat.reduceLeDiff, Nat.reduceLT, Nat.reduceEqDiff, Nat.reduceMul, Nat.add_left_cancel_iff, not_false_eq_true, hc, h39]
    rw [show apT f w p 0 = f from rfl, Nat.add_zero, uH_id h h45, uH_id h h39]
  | succ i ih =>
    intro p f h h8 hp hb h39 h45
    have hc : ¬ (nI i < 0) := by rw [fa_lt, nI_toInt (by omega)]; have : (0 : Int32).toInt = 0 := rfl; omega
    have ez : (w >>> ((8 * nI i).toInt64 &&& 63) &&& 255).toInt32 = nI (bN w i) := by rw [← lN_i32 _ (bN_lt w i), ← zL_lN]; rfl
    rw [qM_type_73]
    simp only [jM_type_73, w0, w1, w2i, w2r, w3, w4, w5_0, w5_1, w5_2, w5_3, w5_4, w5_5, w5_6, w5_7, w5_8, w6_0, w6_1, w7_0, w7_1, w7_2, w7_3, w7_4, w7_5, w8_0, w8_1, w9_0, w9_1, w9_2, w10_0, w10_1, w10_2, w10_3, w10_4, w10_5, w11, w12_0, w12_1, w12_2, w12_3, w12_4, w12_5, w13_0, w13_1, w13_2, w13_3, w13_4, w13_5, w14, w15i, w15r, w16, w17, w18, w19i, w19z, w19l, w20, w21, w22, w23, w24, w25, w26, w27, w28_1, w28_2, w28_3, w28_4, w28_5, w28_6, w29, w30i, w30z, w31, w32, w33, w34, w35, w36, w37_1, w37_2, w37_3, w37_4, w37_5, w37_6, isO_O, set1_0, set1_1i, set1_1r, set1_1n, set1_1l, set1_s, set2_0, set2_1i, set2_1r, set2_1n, set2_1l, set2_s, ldv_i, ldv_l, ldv_r, ldv_s, ldi_i, ldi_s, fK_0, fK_s, gfc_O, fS_0, fS_s, uH_s, uH_n, uH_u, tl_s, tl_n, b1_0, b1_1, ite_true, ite_false, if_true, if_false, List.length_nil, List.length_cons, Nat.zero_le, Nat.zero_add, Nat.reduceAdd, Nat.reduceLeDiff, Nat.reduceLT, Nat.reduceEqDiff, Nat.reduceMul, Nat.add_left_cancel_iff, not_false_eq_true, nI_p1, hc, h39, h45, ez, wIc_n (show p < 100 by omega) (show 100 < 2 ^ 31 by decide), pfc_O, nI_1, nI_dn]
    rw [ih (p + 1) (upd f p (nI (bN w i))) _ (by omega) (by omega) (fun k hk => hb k (by omega)) (by rw [uH_s]) (by rw [uH_n _ _ (by decide), uH_s]), uH4 _ _ _ _ _ (by decide), show p + 1 + i = p + (i + 1) by omega]
    rfl
end TYPE
theorem full_c {l N : Nat} (hl : l ≤ 100) (hN : N ≤ 8) : ((nI N ≤ 100 - nI l) = (l + N ≤ 100)) ∧ ((nI l + nI N ≤ 100) = (l + N ≤ 100)) := by
  have e0 : (100 : Int32).toInt = 100 := rfl
  constructor
  · apply propext
    rw [fa_le, nI_toInt (by omega), fb_subI (by rw [nI_toInt (by omega)]; omega) (by rw [nI_toInt (by omega)]; omega), nI_toInt (by omega), e0]
    omega
  · apply propext
    rw [nI_add, fa_le, nI_toInt (by omega), e0]
    omega
theorem P_type (w : Int64) (n : Int32) : Pr 47 102 [.long w, .int n] := by
  intro h hR
  have hR0 := hR
  obtain ⟨hS, hV1, hV2, hV3, hV4⟩ := hR
  refine RR_case hR0 ?_
  intro m l ik pu ye ki as ow ca sh ah n2 pu2 ye2 ki2 as2 ow2 ca2 sh2 ah2 n3 pu3 ye3 ki3 as3 ow3 ca3 sh3 ah3 be re op sz ab ak ro pt bt fi si th0 la0 le0 it0 th1 la1 le1 it1 th2 la2 le2 it2 th3 la3 le3 it3 ax wr bm kn pr kiM asM owM caM shM tp rd rs rw su abM kp tn td fs ss ig lns szs its mv c0 c1 c2 c3 c4 c5 c6 c7 c8 c9 c10 c11 c12 c13 c14 c15 c16 c17 c18 c19 c20 c21 c22 c23 c24 c25 c26 c27 c28 c29 c30 c31 c32 c33 c34 c35 c36 c37 c38 c39 c40 c41 c42 c43 c44 c45 c46 c47 c48 c49 c50 c51 c52 c53 c54 c55 c56 c57 c58 c59 c60 hRl hTp
  have bad : ∀ z : Int32, (∃ x : Int32, some (Value.int z) = some (.int x) ∧ some (Value.int z) = some (.int x)) ∧ RR h := fun z => ⟨⟨_, rfl, rfl⟩, hR0⟩
  have e1 : (n.toInt64 < 1) = (n < 1) := propext (fa_wide_lt n 1)
  have e8 : ((8 : Int64) < n.toInt64) = (8 < n) := propext (fa_wide_lt 8 n)
  by_cases n1 : n < 1
  · simp only [eC_type, qC_type_0, jC_type_0, qC_type_19, jC_type_19, qC_type_21, jC_type_21, qC_type_38, jC_type_38, w0, w1, w2i, w2r, w3, w4, w5_0, w5_1, w5_2, w5_3, w5_4, w5_5, w5_6, w5_7, w5_8, w6_0, w6_1, w7_0, w7_1, w7_2, w7_3, w7_4, w7_5, w8_0, w8_1, w9_0, w9_1, w9_2, w10_0, w10_1, w10_2, w10_3, w10_4, w10_5, w11, w12_0, w12_1, w12_2, w12_3, w12_4, w12_5, w13_0, w13_1, w13_2, w13_3, w13_4, w13_5, w14, w15i, w15r, w16, w17, w18, w19i, w19z, w19l, w20, w21, w22, w23, w24, w25, w26, w27, w28_1, w28_2, w28_3, w28_4, w28_5, w28_6, w29, w30i, w30z, w31, w32, w33, w34, w35, w36, w37_1, w37_2, w37_3, w37_4, w37_5, w37_6, isO_O, set1_0, set1_1i, set1_1r, set1_1n, set1_1l, set1_s, set2_0, set2_1i, set2_1r, set2_1n, set2_1l, set2_s, ldv_i, ldv_l, ldv_r, ldv_s, ldi_i, ldi_s, fK_0, fK_s, gfc_O, fS_0, fS_s, uH_s, uH_n, uH_u, tl_s, tl_n, b1_0, b1_1, ite_true, ite_false, if_true, if_false, List.length_nil, List.length_cons, Nat.zero_le, Nat.zero_add, Nat.reduceAdd, Nat.reduceLeDiff, Nat.reduceLT, Nat.reduceEqDiff, Nat.reduceMul, Nat.add_left_cancel_iff, not_false_eq_true, n1]
    simp only [eM_type, qM_type_0, w0, w1, w2i, w2r, w3, w4, w5_0, w5_1, w5_2, w5_3, w5_4, w5_5, w5_6, w5_7, w5_8, w6_0, w6_1, w7_0, w7_1, w7_2, w7_3, w7_4, w7_5, w8_0, w8_1, w9_0, w9_1, w9_2, w10_0, w10_1, w10_2, w10_3, w10_4, w10_5, w11, w12_0, w12_1, w12_2, w12_3, w12_4, w12_5, w13_0, w13_1, w13_2, w13_3, w13_4, w13_5, w14, w15i, w15r, w16, w17, w18, w19i, w19z, w19l, w20, w21, w22, w23, w24, w25, w26, w27, w28_1, w28_2, w28_3, w28_4, w28_5, w28_6, w29, w30i, w30z, w31, w32, w33, w34, w35, w36, w37_1, w37_2, w37_3, w37_4, w37_5, w37_6, isO_O, set1_0, set1_1i, set1_1r, set1_1n, set1_1l, set1_s, set2_0, set2_1i, set2_1r, set2_1n, set2_1l, set2_s, ldv_i, ldv_l, ldv_r, ldv_s, ldi_i, ldi_s, fK_0, fK_s, gfc_O, fS_0, fS_s, uH_s, uH_n, uH_u, tl_s, tl_n, b1_0, b1_1, ite_true, ite_false, if_true, if_false, List.length_nil, List.length_cons, Nat.zero_le, Nat.zero_add, Nat.reduceAdd, Nat.reduceLeDiff, Nat.reduceLT, Nat.reduceEqDiff, Nat.reduceMul, Nat.add_left_cancel_iff, not_false_eq_true, M_in, z01, ne_eq, e1, e8, n1, true_or, not_true_eq_false]; exact bad _
  by_cases n8 : 8 < n
  · simp only [eC_type, qC_type_0, jC_type_0, qC_type_19, jC_type_19, qC_type_21, jC_type_21, qC_type_38, jC_type_38, w0, w1, w2i, w2r, w3, w4, w5_0, w5_1, w5_2, w5_3, w5_4, w5_5, w5_6, w5_7, w5_8, w6_0, w6_1, w7_0, w7_1, w7_2, w7_3, w7_4, w7_5, w8_0, w8_1, w9_0, w9_1, w9_2, w10_0, w10_1, w10_2, w10_3, w10_4, w10_5, w11, w12_0, w12_1, w12_2, w12_3, w12_4, w12_5, w13_0, w13_1, w13_2, w13_3, w13_4, w13_5, w14, w15i, w15r, w16, w17, w18, w19i, w19z, w19l, w20, w21, w22, w23, w24, w25, w26, w27, w28_1, w28_2, w28_3, w28_4, w28_5, w28_6, w29, w30i, w30z, w31, w32, w33, w34, w35, w36, w37_1, w37_2, w37_3, w37_4, w37_5, w37_6, isO_O, set1_0, set1_1i, set1_1r, set1_1n, set1_1l, set1_s, set2_0, set2_1i, set2_1r, set2_1n, set2_1l, set2_s, ldv_i, ldv_l, ldv_r, ldv_s, ldi_i, ldi_s, fK_0, fK_s, gfc_O, fS_0, fS_s, uH_s, uH_n, uH_u, tl_s, tl_n, b1_0, b1_1, ite_true, ite_false, if_true, if_false, List.length_nil, List.length_cons, Nat.zero_le, Nat.zero_add, Nat.reduceAdd, Nat.reduceLeDiff, Nat.reduceLT, Nat.reduceEqDiff, Nat.reduceMul, Nat.add_left_cancel_iff, not_false_eq_true, n1, n8]
    simp only [eM_type, qM_type_0, w0, w1, w2i, w2r, w3, w4, w5_0, w5_1, w5_2, w5_3, w5_4, w5_5, w5_6, w5_7, w5_8, w6_0, w6_1, w7_0, w7_1, w7_2, w7_3, w7_4, w7_5, w8_0, w8_1, w9_0, w9_1, w9_2, w10_0, w10_1, w10_2, w10_3, w10_4, w10_5, w11, w12_0, w12_1, w12_2, w12_3, w12_4, w12_5, w13_0, w13_1, w13_2, w13_3, w13_4, w13_5, w14, w15i, w15r, w16, w17, w18, w19i, w19z, w19l, w20, w21, w22, w23, w24, w25, w26, w27, w28_1, w28_2, w28_3, w28_4, w28_5, w28_6, w29, w30i, w30z, w31, w32, w33, w34, w35, w36, w37_1, w37_2, w37_3, w37_4, w37_5, w37_6, isO_O, set1_0, set1_1i, set1_1r, set1_1n, set1_1l, set1_s, set2_0, set2_1i, set2_1r, set2_1n, set2_1l, set2_s, ldv_i, ldv_l, ldv_r, ldv_s, ldi_i, ldi_s, fK_0, fK_s, gfc_O, fS_0, fS_s, uH_s, uH_n, uH_u, tl_s, tl_n, b1_0, b1_1, ite_true, ite_false, if_true, if_false, List.length_nil, List.length_cons, Nat.zero_le, Nat.zero_add, Nat.reduceAdd, Nat.reduceLeDiff, Nat.reduceLT, Nat.reduceEqDiff, Nat.reduceMul, Nat.add_left_cancel_iff, not_false_eq_true, M_in, z01, ne_eq, e1, e8, n1, n8, or_true, not_true_eq_false]; exact bad _
  obtain ⟨N, hN, rfl⟩ : ∃ N : Nat, N ≤ 8 ∧ n = nI N := by
    rw [fa_lt] at n1 n8
    have z1 : (1 : Int32).toInt = 1 := rfl
    have z8 : (8 : Int32).toInt = 8 := rfl
    exact i32_lit (by omega) (by omega) (by decide)
  by_cases hb : ∀ k, k < N → bok w k
  · have m1 := fun (Q : Option Value → AH → Prop) (h : AH) => M_type_1 (h := h) (Q := Q) (l := 0) (pu := 0) (ye := 0) (ho := 0) (bo := 0) (ax := 0) (wr := 0) (be := 0) (kn := 0) (pr := 0) (im := 0) hN hb N 0 (by omega)
    rw [show nI 0 = 0 from rfl] at m1
    obtain ⟨f1, f2⟩ := full_c hTp.1 hN
    by_cases hl : l + N ≤ 100
    · simp only [eC_type, qC_type_0, jC_type_0, qC_type_19, jC_type_19, qC_type_21, jC_type_21, qC_type_38, jC_type_38, w0, w1, w2i, w2r, w3, w4, w5_0, w5_1, w5_2, w5_3, w5_4, w5_5, w5_6, w5_7, w5_8, w6_0, w6_1, w7_0, w7_1, w7_2, w7_3, w7_4, w7_5, w8_0, w8_1, w9_0, w9_1, w9_2, w10_0, w10_1, w10_2, w10_3, w10_4, w10_5, w11, w12_0, w12_1, w12_2, w12_3, w12_4, w12_5, w13_0, w13_1, w13_2, w13_3, w13_4, w13_5, w14, w15i, w15r, w16, w17, w18, w19i, w19z, w19l, w20, w21, w22, w23, w24, w25, w26, w27, w28_1, w28_2, w28_3, w28_4, w28_5, w28_6, w29, w30i, w30z, w31, w32, w33, w34, w35, w36, w37_1, w37_2, w37_3, w37_4, w37_5, w37_6, isO_O, set1_0, set1_1i, set1_1r, set1_1n, set1_1l, set1_s, set2_0, set2_1i, set2_1r, set2_1n, set2_1l, set2_s, ldv_i, ldv_l, ldv_r, ldv_s, ldi_i, ldi_s, fK_0, fK_s, gfc_O, fS_0, fS_s, uH_s, uH_n, uH_u, tl_s, tl_n, b1_0, b1_1, ite_true, ite_false, if_true, if_false, List.length_nil, List.length_cons, Nat.zero_le, Nat.zero_add, Nat.reduceAdd, Nat.reduceLeDiff, Nat.reduceLT, Nat.reduceEqDiff, Nat.reduceMul, Nat.add_left_cancel_iff, not_false_eq_true, z01, ne_eq, n1, n8, C_areSigns hN 1 (Or.inl ⟨hb, rfl⟩), show ¬ (1 : Int32) = 0 by decide, c0, c26, f1, hl, eP_append, qP_append_0]
      rw [P_append_loop N l bt h hN hl hb c26 c27]
      simp only [w0, w1, w2i, w2r, w3, w4, w5_0, w5_1, w5_2, w5_3, w5_4, w5_5, w5_6, w5_7, w5_8, w6_0, w6_1, w7_0, w7_1, w7_2, w7_3, w7_4, w7_5, w8_0, w8_1, w9_0, w9_1, w9_2, w10_0, w10_1, w10_2, w10_3, w10_4, w10_5, w11, w12_0, w12_1, w12_2, w12_3, w12_4, w12_5, w13_0, w13_1, w13_2, w13_3, w13_4, w13_5, w14, w15i, w15r, w16, w17, w18, w19i, w19z, w19l, w20, w21, w22, w23, w24, w25, w26, w27, w28_1, w28_2, w28_3, w28_4, w28_5, w28_6, w29, w30i, w30z, w31, w32, w33, w34, w35, w36, w37_1, w37_2, w37_3, w37_4, w37_5, w37_6, isO_O, set1_0, set1_1i, set1_1r, set1_1n, set1_1l, set1_s, set2_0, set2_1i, set2_1r, set2_1n, set2_1l, set2_s, ldv_i, ldv_l, ldv_r, ldv_s, ldi_i, ldi_s, fK_0, fK_s, gfc_O, fS_0, fS_s, uH_s, uH_n, uH_u, tl_s, tl_n, b1_0, b1_1, ite_true, ite_false, if_true, if_false, List.length_nil, List.length_cons, Nat.zero_le, Nat.zero_add, Nat.reduceAdd, Nat.reduceLeDiff, Nat.reduceLT, Nat.reduceEqDiff, Nat.reduceMul, Nat.add_left_cancel_iff, not_false_eq_true, c0]
      simp only [eM_type, qM_type_0, qM_type_14, jM_type_14, w0, w1, w2i, w2r, w3, w4, w5_0, w5_1, w5_2, w5_3, w5_4, w5_5, w5_6, w5_7, w5_8, w6_0, w6_1, w7_0, w7_1, w7_2, w7_3, w7_4, w7_5, w8_0, w8_1, w9_0, w9_1, w9_2, w10_0, w10_1, w10_2, w10_3, w10_4, w10_5, w11, w12_0, w12_1, w12_2, w12_3, w12_4, w12_5, w13_0, w13_1, w13_2, w13_3, w13_4, w13_5, w14, w15i, w15r, w16, w17, w18, w19i, w19z, w19l, w20, w21, w22, w23, w24, w25, w26, w27, w28_1, w28_2, w28_3, w28_4, w28_5, w28_6, w29, w30i, w30z, w31, w32, w33, w34, w35, w36, w37_1, w37_2, w37_3, w37_4, w37_5, w37_6, isO_O, set1_0, set1_1i, set1_1r, set1_1n, set1_1l, set1_s, set2_0, set2_1i, set2_1r, set2_1n, set2_1l, set2_s, ldv_i, ldv_l, ldv_r, ldv_s, ldi_i, ldi_s, fK_0, fK_s, gfc_O, fS_0, fS_s, uH_s, uH_n, uH_u, tl_s, tl_n, b1_0, b1_1, ite_true, ite_false, if_true, if_false, List.length_nil, List.length_cons, Nat.zero_le, Nat.zero_add, Nat.reduceAdd, Nat.reduceLeDiff, Nat.reduceLT, Nat.reduceEqDiff, Nat.reduceMul, Nat.add_left_cancel_iff, not_false_eq_true, z01, ne_eq, M_in, e1, e8, n1, n8, or_self, m1]
      simp only [qM_type_54, qM_type_68, jM_type_68, w0, w1, w2i, w2r, w3, w4, w5_0, w5_1, w5_2, w5_3, w5_4, w5_5, w5_6, w5_7, w5_8, w6_0, w6_1, w7_0, w7_1, w7_2, w7_3, w7_4, w7_5, w8_0, w8_1, w9_0, w9_1, w9_2, w10_0, w10_1, w10_2, w10_3, w10_4, w10_5, w11, w12_0, w12_1, w12_2, w12_3, w12_4, w12_5, w13_0, w13_1, w13_2, w13_3, w13_4, w13_5, w14, w15i, w15r, w16, w17, w18, w19i, w19z, w19l, w20, w21, w22, w23, w24, w25, w26, w27, w28_1, w28_2, w28_3, w28_4, w28_5, w28_6, w29, w30i, w30z, w31, w32, w33, w34, w35, w36, w37_1, w37_2, w37_3, w37_4, w37_5, w37_6, isO_O, set1_0, set1_1i, set1_1r, set1_1n, set1_1l, set1_s, set2_0, set2_1i, set2_1r, set2_1n, set2_1l, set2_s, ldv_i, ldv_l, ldv_r, ldv_s, ldi_i, ldi_s, fK_0, fK_s, gfc_O, fS_0, fS_s, uH_s, uH_n, uH_u, tl_s, tl_n, b1_0, b1_1, ite_true, ite_false, if_true, if_false, List.length_nil, List.length_cons, Nat.zero_le, Nat.zero_add, Nat.reduceAdd, Nat.reduceLeDiff, Nat.reduceLT, Nat.reduceEqDiff, Nat.reduceMul, Nat.add_left_cancel_iff, not_false_eq_true, c39, f2, hl]
      rw [M_type_ap N l tp _ hN hl hb (by simp only [uH_n, Nat.reduceEqDiff, not_false_eq_true]; exact c39) (by simp only [uH_n, Nat.reduceEqDiff, not_false_eq_true]; exact c45)]
      refine ⟨⟨_, rfl, rfl⟩, ?_, V1_ag (fun q hq => by repeat (first | with_reducible rfl | (refine (uH_k hq (by decide)).trans ?_))) (by rw [c39]; rfl) (by rw [c39]; rfl) (by rw [c39]; rfl) (by rw [c39]; rfl) hV1, V2_ag (fun q hq => by repeat (first | with_reducible rfl | (refine (uH_k hq (by decide)).trans ?_))) (by rw [c39]; rfl) hV2, V3_mk (Tp_ap w N l bt tp hb hl hTp) (by first | (simp only [uH_s, uH_n, Nat.reduceEqDiff, Nat.reduceAdd, not_false_eq_true, c0, c1, c2, c3, c4, c5, c6, c7, c8, c9, c10, c11, c12, c13, c14, c15, c16, c17, c18, c19, c20, c21, c22, c23, c24, c25, c26, c27, c28, c29, c30, c31, c32, c33, c34, c35, c36, c37, c38, c39, c40, c41, c42, c43, c44, c45, c46, c47, c48, c49, c50, c51, c52, c53, c54, c55, c56, c57, c58, c59, c60]; done) | (simp only [uH_s, uH_n, Nat.reduceEqDiff, Nat.reduceAdd, not_false_eq_true, c0, c1, c2, c3, c4, c5, c6, c7, c8, c9, c10, c11, c12, c13, c14, c15, c16, c17, c18, c19, c20, c21, c22, c23, c24, c25, c26, c27, c28, c29, c30, c31, c32, c33, c34, c35, c36, c37, c38, c39, c40, c41, c42, c43, c44, c45, c46, c47, c48, c49, c50, c51, c52, c53, c54, c55, c56, c57, c58, c59, c60]; rfl)) (by first | (simp only [uH_s, uH_n, Nat.reduceEqDiff, Nat.reduceAdd, not_false_eq_true, c0, c1, c2, c3, c4, c5, c6, c7, c8, c9, c10, c11, c12, c13, c14, c15, c16, c17, c18, c19, c20, c21, c22, c23, c24, c25, c26, c27, c28, c29, c30, c31, c32, c33, c34, c35, c36, c37, c38, c39, c40, c41, c42, c43, c44, c45, c46, c47, c48, c49, c50, c51, c52, c53, c54, c55, c56, c57, c58, c59, c60]; done) | (simp only [uH_s, uH_n, Nat.reduceEqDiff, Nat.reduceAdd, not_false_eq_true, c0, c1, c2, c3, c4, c5, c6, c7, c8, c9, c10, c11, c12, c13, c14, c15, c16, c17, c18, c19, c20, c21, c22, c23, c24, c25, c26, c27, c28, c29, c30, c31, c32, c33, c34, c35, c36, c37, c38, c39, c40, c41, c42, c43, c44, c45, c46, c47, c48, c49, c50, c51, c52, c53, c54, c55, c56, c57, c58, c59, c60]; rfl)) (by first | (simp only [uH_s, uH_n, Nat.reduceEqDiff, Nat.reduceAdd, not_false_eq_true, c0, c1, c2, c3, c4, c5, c6, c7, c8, c9, c10, c11, c12, c13, c14, c15, c16, c17, c18, c19, c20, c21, c22, c23, c24, c25, c26, c27, c28, c29, c30, c31, c32, c33, c34, c35, c36, c37, c38, c39, c40, c41, c42, c43, c44, c45, c46, c47, c48, c49, c50, c51, c52, c53, c54, c55, c56, c57, c58, c59, c60]; done) | (simp only [uH_s, uH_n, Nat.reduceEqDiff, Nat.reduceAdd, not_false_eq_true, c0, c1, c2, c3, c4, c5, c6, c7, c8, c9, c10, c11, c12, c13, c14, c15, c16, c17, c18, c19, c20, c21, c22, c23, c24, c25, c26, c27, c28, c29, c30, c31, c32, c33, c34, c35, c36, c37, c38, c39, c40, c41, c42, c43, c44, c45, c46, c47, c48, c49, c50, c51, c52, c53, c54, c55, c56, c57, c58, c59, c60]; rfl)) (by first | (simp only [uH_s, uH_n, Nat.reduceEqDiff, Nat.reduceAdd, not_false_eq_true, c0, c1, c2, c3, c4, c5, c6, c7, c8, c9, c10, c11, c12, c13, c14, c15, c16, c17, c18, c19, c20, c21, c22, c23, c24, c25, c26, c27, c28, c29, c30, c31, c32, c33, c34, c35, c36, c37, c38, c39, c40, c41, c42, c43, c44, c45, c46, c47, c48, c49, c50, c51, c52, c53, c54, c55, c56, c57, c58, c59, c60]; done) | (simp only [uH_s, uH_n, Nat.reduceEqDiff, Nat.reduceAdd, not_false_eq_true, c0, c1, c2, c3, c4, c5, c6, c7, c8, c9, c10, c11, c12, c13, c14, c15, c16, c17, c18, c19, c20, c21, c22, c23, c24, c25, c26, c27, c28, c29, c30, c31, c32, c33, c34, c35, c36, c37, c38, c39, c40, c41, c42, c43, c44, c45, c46, c47, c48, c49, c50, c51, c52, c53, c54, c55, c56, c57, c58, c59, c60]; rfl)), V4_ag (fun q hq => by repeat (first | with_reducible rfl | (refine (uH_k hq (by decide)).trans ?_))) hV4⟩
      repeat (first | exact hS | with_reducible apply sh_0 | with_reducible apply sh_1 | with_reducible apply sh_2 | with_reducible apply sh_3 | with_reducible apply sh_4 | with_reducible apply sh_5 | with_reducible apply sh_6 | with_reducible apply sh_7 | with_reducible apply sh_8 | with_reducible apply sh_9 | with_reducible apply sh_10 | with_reducible apply sh_11 | with_reducible apply sh_12 | with_reducible apply sh_13 | with_reducible apply sh_14 | with_reducible apply sh_15 | with_reducible apply sh_16 | with_reducible apply sh_17 | with_reducible apply sh_18 | with_reducible apply sh_19 | with_reducible apply sh_20 | with_reducible apply sh_21 | with_reducible apply sh_22 | with_reducible apply sh_23 | with_reducible apply sh_24 | with_reducible apply sh_25 | with_reducible apply sh_26 | with_reducible apply sh_27 | with_reducible apply sh_29 | with_reducible apply sh_30 | with_reducible apply sh_31 | with_reducible apply sh_32 | with_reducible apply sh_33 | with_reducible apply sh_34 | with_reducible apply sh_35 | with_reducible apply sh_36 | with_reducible apply sh_37 | with_reducible apply sh_38 | with_reducible apply sh_39 | with_reducible apply sh_40 | with_reducible apply sh_41 | with_reducible apply sh_42 | with_reducible apply sh_43 | with_reducible apply sh_44 | with_reducible apply sh_45 | with_reducible apply sh_46 | with_reducible apply sh_47 | with_reducible apply sh_48 | with_reducible apply sh_49 | with_reducible apply sh_50 | with_reducible apply sh_51 | with_reducible apply sh_52 | with_reducible apply sh_53 | with_reducible apply sh_54 | with_reducible apply sh_55 | with_reducible apply sh_56 | with_reducible apply sh_57 | with_reducible apply sh_58 | with_reducible apply sh_59 | with_reducible apply sh_60)
    · simp only [eC_type, qC_type_0, jC_type_0, qC_type_19, jC_type_19, qC_type_21, jC_type_21, qC_type_38, jC_type_38, w0, w1, w2i, w2r, w3, w4, w5_0, w5_1, w5_2, w5_3, w5_4, w5_5, w5_6, w5_7, w5_8, w6_0, w6_1, w7_0, w7_1, w7_2, w7_3, w7_4, w7_5, w8_0, w8_1, w9_0, w9_1, w9_2, w10_0, w10_1, w10_2, w10_3, w10_4, w10_5, w11, w12_0, w12_1, w12_2, w12_3, w12_4, w12_5, w13_0, w13_1, w13_2, w13_3, w13_4, w13_5, w14, w15i, w15r, w16, w17, w18, w19i, w19z, w19l, w20, w21, w22, w23, w24, w25, w26, w27, w28_1, w28_2, w28_3, w28_4, w28_5, w28_6, w29, w30i, w30z, w31, w32, w33, w34, w35, w36, w37_1, w37_2, w37_3, w37_4, w37_5, w37_6, isO_O, set1_0, set1_1i, set1_1r, set1_1n, set1_1l, set1_s, set2_0, set2_1i, set2_1r, set2_1n, set2_1l, set2_s, ldv_i, ldv_l, ldv_r, ldv_s, ldi_i, ldi_s, fK_0, fK_s, gfc_O, fS_0, fS_s, uH_s, uH_n, uH_u, tl_s, tl_n, b1_0, b1_1, ite_true, ite_false, if_true, if_false, List.length_nil, List.length_cons, Nat.zero_le, Nat.zero_add, Nat.reduceAdd, Nat.reduceLeDiff, Nat.reduceLT, Nat.reduceEqDiff, Nat.reduceMul, Nat.add_left_cancel_iff, not_false_eq_true, z01, ne_eq, n1, n8, C_areSigns hN 1 (Or.inl ⟨hb, rfl⟩), show ¬ (1 : Int32) = 0 by decide, c0, c26, f1, hl]
      simp only [eM_type, qM_type_0, qM_type_14, jM_type_14, w0, w1, w2i, w2r, w3, w4, w5_0, w5_1, w5_2, w5_3, w5_4, w5_5, w5_6, w5_7, w5_8, w6_0, w6_1, w7_0, w7_1, w7_2, w7_3, w7_4, w7_5, w8_0, w8_1, w9_0, w9_1, w9_2, w10_0, w10_1, w10_2, w10_3, w10_4, w10_5, w11, w12_0, w12_1, w12_2, w12_3, w12_4, w12_5, w13_0, w13_1, w13_2, w13_3, w13_4, w13_5, w14, w15i, w15r, w16, w17, w18, w19i, w19z, w19l, w20, w21, w22, w23, w24, w25, w26, w27, w28_1, w28_2, w28_3, w28_4, w28_5, w28_6, w29, w30i, w30z, w31, w32, w33, w34, w35, w36, w37_1, w37_2, w37_3, w37_4, w37_5, w37_6, isO_O, set1_0, set1_1i, set1_1r, set1_1n, set1_1l, set1_s, set2_0, set2_1i, set2_1r, set2_1n, set2_1l, set2_s, ldv_i, ldv_l, ldv_r, ldv_s, ldi_i, ldi_s, fK_0, fK_s, gfc_O, fS_0, fS_s, uH_s, uH_n, uH_u, tl_s, tl_n, b1_0, b1_1, ite_true, ite_false, if_true, if_false, List.length_nil, List.length_cons, Nat.zero_le, Nat.zero_add, Nat.reduceAdd, Nat.reduceLeDiff, Nat.reduceLT, Nat.reduceEqDiff, Nat.reduceMul, Nat.add_left_cancel_iff, not_false_eq_true, z01, ne_eq, M_in, e1, e8, n1, n8, or_self, m1]
      simp only [qM_type_54, qM_type_68, jM_type_68, w0, w1, w2i, w2r, w3, w4, w5_0, w5_1, w5_2, w5_3, w5_4, w5_5, w5_6, w5_7, w5_8, w6_0, w6_1, w7_0, w7_1, w7_2, w7_3, w7_4, w7_5, w8_0, w8_1, w9_0, w9_1, w9_2, w10_0, w10_1, w10_2, w10_3, w10_4, w10_5, w11, w12_0, w12_1, w12_2, w12_3, w12_4, w12_5, w13_0, w13_1, w13_2, w13_3, w13_4, w13_5, w14, w15i, w15r, w16, w17, w18, w19i, w19z, w19l, w20, w21, w22, w23, w24, w25, w26, w27, w28_1, w28_2, w28_3, w28_4, w28_5, w28_6, w29, w30i, w30z, w31, w32, w33, w34, w35, w36, w37_1, w37_2, w37_3, w37_4, w37_5, w37_6, isO_O, set1_0, set1_1i, set1_1r, set1_1n, set1_1l, set1_s, set2_0, set2_1i, set2_1r, set2_1n, set2_1l, set2_s, ldv_i, ldv_l, ldv_r, ldv_s, ldi_i, ldi_s, fK_0, fK_s, gfc_O, fS_0, fS_s, uH_s, uH_n, uH_u, tl_s, tl_n, b1_0, b1_1, ite_true, ite_false, if_true, if_false, List.length_nil, List.length_cons, Nat.zero_le, Nat.zero_add, Nat.reduceAdd, Nat.reduceLeDiff, Nat.reduceLT, Nat.reduceEqDiff, Nat.reduceMul, Nat.add_left_cancel_iff, not_false_eq_true, c39, f2, hl]
      exact bad _
  · have hx : ∃ k, k < N ∧ ¬ bok w k := Classical.byContradiction fun z => hb (fun k hk => Classical.byContradiction fun y => z ⟨k, hk, y⟩)
    have dp : DecidablePred (fun k => ¬ bok w k) := fun k => Classical.propDecidable _
    obtain ⟨j, j1, j2, j3⟩ := fb_first (p := fun k => ¬ bok w k) hx
    have m0 := fun (Q : Option Value → AH → Prop) (h : AH) => M_type_0 (h := h) (Q := Q) hN j1 (fun k hk => Classical.byContradiction (j3 k hk)) j2 j 0 (by omega)
    rw [show nI 0 = 0 from rfl] at m0
    simp only [eC_type, qC_type_0, jC_type_0, qC_type_19, jC_type_19, qC_type_21, jC_type_21, qC_type_38, jC_type_38, w0, w1, w2i, w2r, w3, w4, w5_0, w5_1, w5_2, w5_3, w5_4, w5_5, w5_6, w5_7, w5_8, w6_0, w6_1, w7_0, w7_1, w7_2, w7_3, w7_4, w7_5, w8_0, w8_1, w9_0, w9_1, w9_2, w10_0, w10_1, w10_2, w10_3, w10_4, w10_5, w11, w12_0, w12_1, w12_2, w12_3, w12_4, w12_5, w13_0, w13_1, w13_2, w13_3, w13_4, w13_5, w14, w15i, w15r, w16, w17, w18, w19i, w19z, w19l, w20, w21, w22, w23, w24, w25, w26, w27, w28_1, w28_2, w28_3, w28_4, w28_5, w28_6, w29, w30i, w30z, w31, w32, w33, w34, w35, w36, w37_1, w37_2, w37_3, w37_4, w37_5, w37_6, isO_O, set1_0, set1_1i, set1_1r, set1_1n, set1_1l, set1_s, set2_0, set2_1i, set2_1r, set2_1n, set2_1l, set2_s, ldv_i, ldv_l, ldv_r, ldv_s, ldi_i, ldi_s, fK_0, fK_s, gfc_O, fS_0, fS_s, uH_s, uH_n, uH_u, tl_s, tl_n, b1_0, b1_1, ite_true, ite_false, if_true, if_false, List.length_nil, List.length_cons, Nat.zero_le, Nat.zero_add, Nat.reduceAdd, Nat.reduceLeDiff, Nat.reduceLT, Nat.reduceEqDiff, Nat.reduceMul, Nat.add_left_cancel_iff, not_false_eq_true, z01, ne_eq, n1, n8, C_areSigns hN 0 (Or.inr ⟨hx, rfl⟩)]
    simp only [eM_type, qM_type_0, qM_type_14, jM_type_14, w0, w1, w2i, w2r, w3, w4, w5_0, w5_1, w5_2, w5_3, w5_4, w5_5, w5_6, w5_7, w5_8, w6_0, w6_1, w7_0, w7_1, w7_2, w7_3, w7_4, w7_5, w8_0, w8_1, w9_0, w9_1, w9_2, w10_0, w10_1, w10_2, w10_3, w10_4, w10_5, w11, w12_0, w12_1, w12_2, w12_3, w12_4, w12_5, w13_0, w13_1, w13_2, w13_3, w13_4, w13_5, w14, w15i, w15r, w16, w17, w18, w19i, w19z, w19l, w20, w21, w22, w23, w24, w25, w26, w27, w28_1, w28_2, w28_3, w28_4, w28_5, w28_6, w29, w30i, w30z, w31, w32, w33, w34, w35, w36, w37_1, w37_2, w37_3, w37_4, w37_5, w37_6, isO_O, set1_0, set1_1i, set1_1r, set1_1n, set1_1l, set1_s, set2_0, set2_1i, set2_1r, set2_1n, set2_1l, set2_s, ldv_i, ldv_l, ldv_r, ldv_s, ldi_i, ldi_s, fK_0, fK_s, gfc_O, fS_0, fS_s, uH_s, uH_n, uH_u, tl_s, tl_n, b1_0, b1_1, ite_true, ite_false, if_true, if_false, List.length_nil, List.length_cons, Nat.zero_le, Nat.zero_add, Nat.reduceAdd, Nat.reduceLeDiff, Nat.reduceLT, Nat.reduceEqDiff, Nat.reduceMul, Nat.add_left_cancel_iff, not_false_eq_true, z01, ne_eq, M_in, e1, e8, n1, n8, or_self, m0]
    exact bad _

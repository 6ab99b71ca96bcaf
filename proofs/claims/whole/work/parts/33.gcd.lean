/-! lowest terms -/
def ph : Nat → Nat
  | 0 => 1
  | 1 => 2
  | d + 2 => ph (d + 1) + ph d
theorem ph_pos : ∀ d, 0 < ph d ∧ 0 < ph (d + 1)
  | 0 => by decide
  | d + 1 => by
    have ih := ph_pos d
    refine ⟨ih.2, ?_⟩
    rw [ph]
    omega
theorem ph100 : 2 ^ 63 ≤ ph 100 := by decide +kernel
theorem lN_z {n : Nat} (h : n < 2 ^ 63) : (lN n = 0) = (n = 0) := propext (by rw [show (0 : Int64) = lN 0 from rfl]; exact pk_lEQ h (by decide))
theorem absN {a : Int64} (h : -9223372036854775808 < a.toInt) : a.toInt.natAbs < 2 ^ 63 := by
  have := fb_rngL a
  omega
theorem lN_of {x : Int64} (hx : 0 ≤ x.toInt) : x = lN x.toInt.toNat := by
  apply Int64.toInt_inj.mp
  have := fb_rngL x
  rw [pk_lT (by omega)]
  omega
theorem negL {a : Int64} (h : -9223372036854775808 < a.toInt) : (-a).toInt = -a.toInt := by
  have := fb_rngL a
  have e : -a = 0 - a := by simp
  rw [e, fb_subL (by rw [show (0 : Int64).toInt = 0 from rfl]; omega) (by rw [show (0 : Int64).toInt = 0 from rfl]; omega), show (0 : Int64).toInt = 0 from rfl]
  omega
theorem absL {a : Int64} (h : -9223372036854775808 < a.toInt) : (if 0 < a then a else -a) = lN a.toInt.natAbs := by
  by_cases hp : 0 < a
  · rw [if_pos hp]
    rw [fa_lt64, show (0 : Int64).toInt = 0 from rfl] at hp
    have e := lN_of (x := a) (by omega)
    rw [show a.toInt.natAbs = a.toInt.toNat by omega]
    exact e
  · rw [if_neg hp]
    rw [fa_lt64, show (0 : Int64).toInt = 0 from rfl] at hp
    have e := lN_of (x := -a) (by rw [negL h]; omega)
    rw [negL h] at e
    rw [show a.toInt.natAbs = (-a.toInt).toNat by omega]
    exact e
/-- a fraction's part in lowest terms -/
def low (a : Int64) (d : Nat) (p : Int32) : Int64 := (if p = 0 then a else lN d) / lN (Nat.gcd a.toInt.natAbs d)
section GCD
variable {h : AH} {Q : Option Value → AH → Prop}
theorem C_gcd_go {a b : Nat} {x0 x1 : Int64} {x9 x10 : Option Value} {s : Nat} (hs : s < 100) (ha : a < 2 ^ 63) (hb : b < 2 ^ 63) (hb0 : ¬ b = 0) : ∃ y9 y10 : Option Value, Wp none 80 qC_commonDivisor_9 [some (.long x0), none, some (.long x1), none, some (.long (lN a)), none, some (.long (lN b)), none, some (.int (nI s)), x9, x10] [] h Q = Wp none 80 qC_commonDivisor_9 [some (.long x0), none, some (.long x1), none, some (.long (lN b)), none, some (.long (lN (a % b))), none, some (.int (nI (s + 1))), y9, y10] [] h Q := by
  refine ⟨some (.long (lN (a % b))), none, ?_⟩
  have hc : ¬ (100 : Int32) ≤ nI s := nI_ge (b := 100) hs (by decide)
  conv => lhs; rw [qC_commonDivisor_9]
  simp only [jC_commonDivisor_9, w0, w1, w2i, w2r, w3, w4, w5_0, w5_1, w5_2, w5_3, w5_4, w5_5, w5_6, w5_7, w5_8, w6_0, w6_1, w7_0, w7_1, w7_2, w7_3, w7_4, w7_5, w8_0, w8_1, w9_0, w9_1, w9_2, w10_0, w10_1, w10_2, w10_3, w10_4, w10_5, w11, w12_0, w12_1, w12_2, w12_3, w12_4, w12_5, w13_0, w13_1, w13_2, w13_3, w13_4, w13_5, w14, w15i, w15r, w16, w17, w18, w19i, w19z, w19l, w20, w21, w22, w23, w24, w25, w26, w27, w28_1, w28_2, w28_3, w28_4, w28_5, w28_6, w29, w30i, w30z, w31, w32, w33, w34, w35, w36, w37_1, w37_2, w37_3, w37_4, w37_5, w37_6, isO_O, set1_0, set1_1i, set1_1r, set1_1n, set1_1l, set1_s, set2_0, set2_1i, set2_1r, set2_1n, set2_1l, set2_s, ldv_i, ldv_l, ldv_r, ldv_s, ldi_i, ldi_s, fK_0, fK_s, gfc_O, fS_0, fS_s, uH_s, uH_n, uH_u, tl_s, tl_n, b1_0, b1_1, ite_true, ite_false, if_true, if_false, List.length_nil, List.length_cons, Nat.zero_le, Nat.zero_add, Nat.reduceAdd, Nat.reduceLeDiff, Nat.reduceLT, Nat.reduceEqDiff, Nat.reduceMul, Nat.add_left_cancel_iff, not_false_eq_true, hc, lg_cmp_eq, lN_z hb, hb0, pk_lRem ha (Nat.pos_of_ne_zero hb0) hb, nI_1]
theorem C_gcd_end {a : Nat} {x0 x1 : Int64} {x9 x10 : Option Value} {s : Nat} (hs : s ≤ 100) : Wp none 80 qC_commonDivisor_9 [some (.long x0), none, some (.long x1), none, some (.long (lN a)), none, some (.long (lN 0)), none, some (.int (nI s)), x9, x10] [] h Q = Q (some (.long (lN a))) h := by
  rw [qC_commonDivisor_9]
  simp only [qC_commonDivisor_44, jC_commonDivisor_44, w0, w1, w2i, w2r, w3, w4, w5_0, w5_1, w5_2, w5_3, w5_4, w5_5, w5_6, w5_7, w5_8, w6_0, w6_1, w7_0, w7_1, w7_2, w7_3, w7_4, w7_5, w8_0, w8_1, w9_0, w9_1, w9_2, w10_0, w10_1, w10_2, w10_3, w10_4, w10_5, w11, w12_0, w12_1, w12_2, w12_3, w12_4, w12_5, w13_0, w13_1, w13_2, w13_3, w13_4, w13_5, w14, w15i, w15r, w16, w17, w18, w19i, w19z, w19l, w20, w21, w22, w23, w24, w25, w26, w27, w28_1, w28_2, w28_3, w28_4, w28_5, w28_6, w29, w30i, w30z, w31, w32, w33, w34, w35, w36, w37_1, w37_2, w37_3, w37_4, w37_5, w37_6, isO_O, set1_0, set1_1i, set1_1r, set1_1n, set1_1l, set1_s, set2_0, set2_1i, set2_1r, set2_1n, set2_1l, set2_s, ldv_i, ldv_l, ldv_r, ldv_s, ldi_i, ldi_s, fK_0, fK_s, gfc_O, fS_0, fS_s, uH_s, uH_n, uH_u, tl_s, tl_n, b1_0, b1_1, ite_true, ite_false, if_true, if_false, List.length_nil, List.length_cons, Nat.zero_le, Nat.zero_add, Nat.reduceAdd, Nat.reduceLeDiff, Nat.reduceLT, Nat.reduceEqDiff, Nat.reduceMul, Nat.add_left_cancel_iff, not_false_eq_true, lg_cmp_eq, lN_z (show 0 < 2 ^ 63 by decide)]
  by_cases hc : (100 : Int32) ≤ nI s
  · rw [if_pos hc]
  · rw [if_neg hc]
theorem C_gcd_loop {x0 x1 : Int64} : ∀ (d : Nat), (∀ (s a b : Nat) (x9 x10 : Option Value), s + d = 100 → a < 2 ^ 63 → b < 2 ^ 63 → b < ph d → Wp none 80 qC_commonDivisor_9 [some (.long x0), none, some (.long x1), none, some (.long (lN a)), none, some (.long (lN b)), none, some (.int (nI s)), x9, x10] [] h Q = Q (some (.long (lN (Nat.gcd a b)))) h) ∧ (∀ (s a b : Nat) (x9 x10 : Option Value), s + (d + 1) = 100 → a < 2 ^ 63 → b < 2 ^ 63 → b < ph (d + 1) → Wp none 80 qC_commonDivisor_9 [some (.long x0), none, some (.long x1), none, some (.long (lN a)), none, some (.long (lN b)), none, some (.int (nI s)), x9, x10] [] h Q = Q (some (.long (lN (Nat.gcd a b)))) h) := by
  intro d
  induction d with
  | zero =>
    constructor
    · intro s a b x9 x10 hs ha hb hp
      have e : b = 0 := by simp [ph] at hp; exact hp
      subst e
      rw [C_gcd_end (by omega), Nat.gcd_zero_right]
    · intro s a b x9 x10 hs ha hb hp
      by_cases hb0 : b = 0
      · subst hb0
        rw [C_gcd_end (by omega), Nat.gcd_zero_right]
      · have e : b = 1 := by simp [ph] at hp; omega
        subst e
        obtain ⟨y9, y10, e1⟩ := C_gcd_go (h := h) (Q := Q) (x0 := x0) (x1 := x1) (x9 := x9) (x10 := x10) (show s < 100 by omega) ha hb hb0
        rw [e1, Nat.mod_one, C_gcd_end (by omega), Nat.gcd_one_right]
  | succ d ih =>
    refine ⟨ih.2, ?_⟩
    intro s a b x9 x10 hs ha hb hp
    by_cases hb0 : b = 0
    · subst hb0
      rw [C_gcd_end (by omega), Nat.gcd_zero_right]
    · obtain ⟨y9, y10, e1⟩ := C_gcd_go (h := h) (Q := Q) (x0 := x0) (x1 := x1) (x9 := x9) (x10 := x10) (show s < 100 by omega) ha hb hb0
      have hr : a % b < b := Nat.mod_lt _ (Nat.pos_of_ne_zero hb0)
      have eg : Nat.gcd a b = Nat.gcd b (a % b) := by rw [Nat.gcd_comm a b, Nat.gcd_rec b a, Nat.gcd_comm]
      rw [e1, eg]
      by_cases h1 : a % b < ph (d + 1)
      · exact ih.2 (s + 1) b (a % b) y9 y10 (by omega) hb (by omega) h1
      · have hpos : 0 < ph (d + 1) := (ph_pos d).2
        have hp2 : b < ph (d + 2) := hp
        have hr0 : ¬ a % b = 0 := by omega
        obtain ⟨z9, z10, e2⟩ := C_gcd_go (h := h) (Q := Q) (x0 := x0) (x1 := x1) (x9 := y9) (x10 := y10) (show s + 1 < 100 by omega) hb (show a % b < 2 ^ 63 by omega) hr0
        have eg2 : Nat.gcd b (a % b) = Nat.gcd (a % b) (b % (a % b)) := by rw [Nat.gcd_comm b (a % b), Nat.gcd_rec (a % b) b, Nat.gcd_comm]
        have hle : b % (a % b) ≤ b - a % b := by
          rw [Nat.mod_eq_sub_mod (by omega)]
          exact Nat.mod_le _ _
        have hph : ph (d + 2) = ph (d + 1) + ph d := by rw [ph]
        rw [e2, eg2]
        exact ih.1 (s + 1 + 1) (a % b) (b % (a % b)) z9 z10 (by omega) (by omega) (by omega) (by omega)
theorem C_commonDivisor {a b : Nat} (ha : a < 2 ^ 63) (hb : b < 2 ^ 63) : WpM 80 [.long (lN a), .long (lN b)] h Q = Q (some (.long (lN (Nat.gcd a b)))) h := by
  rw [eC_commonDivisor]
  simp only [qC_commonDivisor_0, w0, w1, w2i, w2r, w3, w4, w5_0, w5_1, w5_2, w5_3, w5_4, w5_5, w5_6, w5_7, w5_8, w6_0, w6_1, w7_0, w7_1, w7_2, w7_3, w7_4, w7_5, w8_0, w8_1, w9_0, w9_1, w9_2, w10_0, w10_1, w10_2, w10_3, w10_4, w10_5, w11, w12_0, w12_1, w12_2, w12_3, w12_4, w12_5, w13_0, w13_1, w13_2, w13_3, w13_4, w13_5, w14, w15i, w15r, w16, w17, w18, w19i, w19z, w19l, w20, w21, w22, w23, w24, w25, w26, w27, w28_1, w28_2, w28_3, w28_4, w28_5, w28_6, w29, w30i, w30z, w31, w32, w33, w34, w35, w36, w37_1, w37_2, w37_3, w37_4, w37_5, w37_6, isO_O, set1_0, set1_1i, set1_1r, set1_1n, set1_1l, set1_s, set2_0, set2_1i, set2_1r, set2_1n, set2_1l, set2_s, ldv_i, ldv_l, ldv_r, ldv_s, ldi_i, ldi_s, fK_0, fK_s, gfc_O, fS_0, fS_s, uH_s, uH_n, uH_u, tl_s, tl_n, b1_0, b1_1, ite_true, ite_false, if_true, if_false, List.length_nil, List.length_cons, Nat.zero_le, Nat.zero_add, Nat.reduceAdd, Nat.reduceLeDiff, Nat.reduceLT, Nat.reduceEqDiff, Nat.reduceMul, Nat.add_left_cancel_iff, not_false_eq_true]
  have := ph100
  exact (C_gcd_loop (h := h) (Q := Q) (x0 := lN a) (x1 := lN b) 100).1 0 a b none none (by omega) ha hb (by omega)
theorem C_lowest {a : Int64} {d : Nat} {p : Int32} (ha : -9223372036854775808 < a.toInt) (hd : d < 2 ^ 63) (hd0 : 0 < d) : WpM 79 [.long a, .long (lN d), .int p] h Q = Q (some (.long (low a d p))) h := by
  have hg : 0 < Nat.gcd a.toInt.natAbs d := Nat.gcd_pos_of_pos_right _ hd0
  have hg2 : Nat.gcd a.toInt.natAbs d < 2 ^ 63 := Nat.lt_of_le_of_lt (Nat.gcd_le_right _ hd0) hd
  have hz : ¬ lN (Nat.gcd a.toInt.natAbs d) = 0 := by rw [lN_z hg2]; omega
  rw [eC_lowest]
  simp only [qC_lowest_0, jC_lowest_0, qC_lowest_19, jC_lowest_19, qC_lowest_28, jC_lowest_28, qC_lowest_29, jC_lowest_29, w0, w1, w2i, w2r, w3, w4, w5_0, w5_1, w5_2, w5_3, w5_4, w5_5, w5_6, w5_7, w5_8, w6_0, w6_1, w7_0, w7_1, w7_2, w7_3, w7_4, w7_5, w8_0, w8_1, w9_0, w9_1, w9_2, w10_0, w10_1, w10_2, w10_3, w10_4, w10_5, w11, w12_0, w12_1, w12_2, w12_3, w12_4, w12_5, w13_0, w13_1, w13_2, w13_3, w13_4, w13_5, w14, w15i, w15r, w16, w17, w18, w19i, w19z, w19l, w20, w21, w22, w23, w24, w25, w26, w27, w28_1, w28_2, w28_3, w28_4, w28_5, w28_6, w29, w30i, w30z, w31, w32, w33, w34, w35, w36, w37_1, w37_2, w37_3, w37_4, w37_5, w37_6, isO_O, set1_0, set1_1i, set1_1r, set1_1n, set1_1l, set1_s, set2_0, set2_1i, set2_1r, set2_1n, set2_1l, set2_s, ldv_i, ldv_l, ldv_r, ldv_s, ldi_i, ldi_s, fK_0, fK_s, gfc_O, fS_0, fS_s, uH_s, uH_n, uH_u, tl_s, tl_n, b1_0, b1_1, ite_true, ite_false, if_true, if_false, List.length_nil, List.length_cons, Nat.zero_le, Nat.zero_add, Nat.reduceAdd, Nat.reduceLeDiff, Nat.reduceLT, Nat.reduceEqDiff, Nat.reduceMul, Nat.add_left_cancel_iff, not_false_eq_true, absL ha, C_commonDivisor (absN ha) hd, lg_cmp_eq, ne_eq, hz, not_false_eq_true]
  unfold low
  by_cases hp : p = 0 <;> simp [hp]
theorem M_lowest_loop {x0 x1 : Int64} {p : Int32} : ∀ (b : Nat), b < 2 ^ 63 → ∀ (a : Nat) (x9 x10 : Option Value), a < 2 ^ 63 → ∃ y7 y8 y9 y10 : Option Value, Wp none 113 qM_lowest_17 [some (.long x0), none, some (.long x1), none, some (.int p), some (.long (lN a)), none, some (.long (lN b)), none, x9, x10] [] h Q = Wp none 113 qM_lowest_42 [some (.long x0), none, some (.long x1), none, some (.int p), some (.long (lN (Nat.gcd a b))), none, y7, y8, y9, y10] [] h Q := by
  intro b
  induction b using Nat.strongRecOn with
  | ind b ih =>
    intro hb a x9 x10 ha
    by_cases hb0 : b = 0
    · subst hb0
      refine ⟨some (.long (lN 0)), none, x9, x10, ?_⟩
      rw [qM_lowest_17]
      simp only [jM_lowest_42, w0, w1, w2i, w2r, w3, w4, w5_0, w5_1, w5_2, w5_3, w5_4, w5_5, w5_6, w5_7, w5_8, w6_0, w6_1, w7_0, w7_1, w7_2, w7_3, w7_4, w7_5, w8_0, w8_1, w9_0, w9_1, w9_2, w10_0, w10_1, w10_2, w10_3, w10_4, w10_5, w11, w12_0, w12_1, w12_2, w12_3, w12_4, w12_5, w13_0, w13_1, w13_2, w13_3, w13_4, w13_5, w14, w15i, w15r, w16, w17, w18, w19i, w19z, w19l, w20, w21, w22, w23, w24, w25, w26, w27, w28_1, w28_2, w28_3, w28_4, w28_5, w28_6, w29, w30i, w30z, w31, w32, w33, w34, w35, w36, w37_1, w37_2, w37_3, w37_4, w37_5, w37_6, isO_O, set1_0, set1_1i, set1_1r, set1_1n, set1_1l, set1_s, set2_0, set2_1i, set2_1r, set2_1n, set2_1l, set2_s, ldv_i, ldv_l, ldv_r, ldv_s, ldi_i, ldi_s, fK_0, fK_s, gfc_O, fS_0, fS_s, uH_s, uH_n, uH_u, tl_s, tl_n, b1_0, b1_1, ite_true, ite_false, if_true, if_false, List.length_nil, List.length_cons, Nat.zero_le, Nat.zero_add, Nat.reduceAdd, Nat.reduceLeDiff, Nat.reduceLT, Nat.reduceEqDiff, Nat.reduceMul, Nat.add_left_cancel_iff, not_false_eq_true, lg_cmp_eq, lN_z hb, Nat.gcd_zero_right]
    · have hr : a % b < b := Nat.mod_lt _ (Nat.pos_of_ne_zero hb0)
      obtain ⟨y7, y8, y9, y10, e⟩ := ih (a % b) hr (by omega) b (some (.long (lN (a % b)))) none hb
      have eg : Nat.gcd a b = Nat.gcd b (a % b) := by rw [Nat.gcd_comm a b, Nat.gcd_rec b a, Nat.gcd_comm]
      refine ⟨y7, y8, y9, y10, ?_⟩
      rw [eg, ← e]
      conv => lhs; rw [qM_lowest_17]
      simp only [jM_lowest_17, w0, w1, w2i, w2r, w3, w4, w5_0, w5_1, w5_2, w5_3, w5_4, w5_5, w5_6, w5_7, w5_8, w6_0, w6_1, w7_0, w7_1, w7_2, w7_3, w7_4, w7_5, w8_0, w8_1, w9_0, w9_1, w9_2, w10_0, w10_1, w10_2, w10_3, w10_4, w10_5, w11, w12_0, w12_1, w12_2, w12_3, w12_4, w12_5, w13_0, w13_1, w13_2, w13_3, w13_4, w13_5, w14, w15i, w15r, w16, w17, w18, w19i, w19z, w19l, w20, w21, w22, w23, w24, w25, w26, w27, w28_1, w28_2, w28_3, w28_4, w28_5, w28_6, w29, w30i, w30z, w31, w32, w33, w34, w35, w36, w37_1, w37_2, w37_3, w37_4, w37_5, w37_6, isO_O, set1_0, set1_1i, set1_1r, set1_1n, set1_1l, set1_s, set2_0, set2_1i, set2_1r, set2_1n, set2_1l, set2_s, ldv_i, ldv_l, ldv_r, ldv_s, ldi_i, ldi_s, fK_0, fK_s, gfc_O, fS_0, fS_s, uH_s, uH_n, uH_u, tl_s, tl_n, b1_0, b1_1, ite_true, ite_false, if_true, if_false, List.length_nil, List.length_cons, Nat.zero_le, Nat.zero_add, Nat.reduceAdd, Nat.reduceLeDiff, Nat.reduceLT, Nat.reduceEqDiff, Nat.reduceMul, Nat.add_left_cancel_iff, not_false_eq_true, lg_cmp_eq, lN_z hb, hb0, pk_lRem ha (Nat.pos_of_ne_zero hb0) hb]
theorem M_lowest {a : Int64} {d : Nat} {p : Int32} (ha : -9223372036854775808 < a.toInt) (hd : d < 2 ^ 63) (hd0 : 0 < d) : WpM 113 [.long a, .long (lN d), .int p] h Q = Q (some (.long (low a d p))) h := by
  have hg : 0 < Nat.gcd a.toInt.natAbs d := Nat.gcd_pos_of_pos_right _ hd0
  have hg2 : Nat.gcd a.toInt.natAbs d < 2 ^ 63 := Nat.lt_of_le_of_lt (Nat.gcd_le_right _ hd0) hd
  have hz : ¬ lN (Nat.gcd a.toInt.natAbs d) = 0 := by rw [lN_z hg2]; omega
  obtain ⟨y7, y8, y9, y10, e⟩ := M_lowest_loop (h := h) (Q := Q) (x0 := a) (x1 := lN d) (p := p) d hd a.toInt.natAbs none none (absN ha)
  have e2 : WpM 113 [.long a, .long (lN d), .int p] h Q = Wp none 113 qM_lowest_17 [some (.long a), none, some (.long (lN d)), none, some (.int p), some (.long (lN a.toInt.natAbs)), none, some (.long (lN d)), none, none, none] [] h Q := by
    rw [eM_lowest]
    simp only [qM_lowest_0, jM_lowest_0, qM_lowest_11, jM_lowest_11, qM_lowest_12, jM_lowest_12, w0, w1, w2i, w2r, w3, w4, w5_0, w5_1, w5_2, w5_3, w5_4, w5_5, w5_6, w5_7, w5_8, w6_0, w6_1, w7_0, w7_1, w7_2, w7_3, w7_4, w7_5, w8_0, w8_1, w9_0, w9_1, w9_2, w10_0, w10_1, w10_2, w10_3, w10_4, w10_5, w11, w12_0, w12_1, w12_2, w12_3, w12_4, w12_5, w13_0, w13_1, w13_2, w13_3, w13_4, w13_5, w14, w15i, w15r, w16, w17, w18, w19i, w19z, w19l, w20, w21, w22, w23, w24, w25, w26, w27, w28_1, w28_2, w28_3, w28_4, w28_5, w28_6, w29, w30i, w30z, w31, w32, w33, w34, w35, w36, w37_1, w37_2, w37_3, w37_4, w37_5, w37_6, isO_O, set1_0, set1_1i, set1_1r, set1_1n, set1_1l, set1_s, set2_0, set2_1i, set2_1r, set2_1n, set2_1l, set2_s, ldv_i, ldv_l, ldv_r, ldv_s, ldi_i, ldi_s, fK_0, fK_s, gfc_O, fS_0, fS_s, uH_s, uH_n, uH_u, tl_s, tl_n, b1_0, b1_1, ite_true, ite_false, if_true, if_false, List.length_nil, List.length_cons, Nat.zero_le, Nat.zero_add, Nat.reduceAdd, Nat.reduceLeDiff, Nat.reduceLT, Nat.reduceEqDiff, Nat.reduceMul, Nat.add_left_cancel_iff, not_false_eq_true, lg_cmp_ge]
    have hab := absL ha
    by_cases h0 : 0 ≤ a
    · rw [if_pos h0]
      by_cases h1 : 0 < a
      · rw [if_pos h1] at hab
        rw [← hab]
      · have hz0 : a = 0 := by
          apply Int64.toInt_inj.mp
          rw [fa_le64] at h0; rw [fa_lt64] at h1
          rw [show (0 : Int64).toInt = 0 from rfl] at *
          omega
        subst hz0
        rfl
    · rw [if_neg h0]
      have h1 : ¬ 0 < a := fun z => h0 (by rw [fa_lt64] at z; rw [fa_le64]; omega)
      rw [if_neg h1] at hab
      rw [← hab]
  rw [e2, e, qM_lowest_42]
  simp only [qM_lowest_54, jM_lowest_54, qM_lowest_58, jM_lowest_58, w0, w1, w2i, w2r, w3, w4, w5_0, w5_1, w5_2, w5_3, w5_4, w5_5, w5_6, w5_7, w5_8, w6_0, w6_1, w7_0, w7_1, w7_2, w7_3, w7_4, w7_5, w8_0, w8_1, w9_0, w9_1, w9_2, w10_0, w10_1, w10_2, w10_3, w10_4, w10_5, w11, w12_0, w12_1, w12_2, w12_3, w12_4, w12_5, w13_0, w13_1, w13_2, w13_3, w13_4, w13_5, w14, w15i, w15r, w16, w17, w18, w19i, w19z, w19l, w20, w21, w22, w23, w24, w25, w26, w27, w28_1, w28_2, w28_3, w28_4, w28_5, w28_6, w29, w30i, w30z, w31, w32, w33, w34, w35, w36, w37_1, w37_2, w37_3, w37_4, w37_5, w37_6, isO_O, set1_0, set1_1i, set1_1r, set1_1n, set1_1l, set1_s, set2_0, set2_1i, set2_1r, set2_1n, set2_1l, set2_s, ldv_i, ldv_l, ldv_r, ldv_s, ldi_i, ldi_s, fK_0, fK_s, gfc_O, fS_0, fS_s, uH_s, uH_n, uH_u, tl_s, tl_n, b1_0, b1_1, ite_true, ite_false, if_true, if_false, List.length_nil, List.length_cons, Nat.zero_le, Nat.zero_add, Nat.reduceAdd, Nat.reduceLeDiff, Nat.reduceLT, Nat.reduceEqDiff, Nat.reduceMul, Nat.add_left_cancel_iff, not_false_eq_true, ne_eq, hz]
  unfold low
  by_cases hp : p = 0 <;> simp [hp]
end GCD

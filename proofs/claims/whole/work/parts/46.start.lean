/-! 7: the rows as they begin -/
/-- shares as they must be: 0 .. 2, alike both ways, none with oneself, none beyond the houses -/
def ShV (sh : Nat → Int32) (m : Nat) : Prop := ∀ a c, a < 8 → c < 8 → (0 ≤ (sh (8 * a + c)).toInt ∧ (sh (8 * a + c)).toInt ≤ 2) ∧ sh (8 * a + c) = sh (8 * c + a) ∧ (a = c ∨ m ≤ a ∨ m ≤ c → sh (8 * a + c) = 0)
/-- a house's shares together, as a whole number -/
def wz (sh : Nat → Int32) (a : Nat) : Nat → Int
  | 0 => 0
  | o + 1 => wz sh a o + (sh (8 * a + o)).toInt
theorem wz_bd {sh : Nat → Int32} {m a : Nat} (hv : ShV sh m) (ha : a < 8) : ∀ n, n ≤ 8 → 0 ≤ wz sh a n ∧ wz sh a n ≤ 2 * n
  | 0, _ => by simp [wz]
  | n + 1, hn => by
    have ih := wz_bd hv ha n (by omega)
    have h1 := (hv a n ha (by omega)).1
    unfold wz
    omega
theorem wt_z {sh : Nat → Int32} {m a : Nat} (hv : ShV sh m) (ha : a < 8) : ∀ n, n ≤ 8 → (wt sh a n).toInt = wz sh a n
  | 0, _ => rfl
  | n + 1, hn => by
    have ih := wt_z hv ha n (by omega)
    have h1 := (hv a n ha (by omega)).1
    have h2 := wz_bd hv ha n (by omega)
    unfold wt wz
    rw [fb_addI (by rw [ih]; omega) (by rw [ih]; omega), ih]
theorem wz_8 {sh : Nat → Int32} {m a : Nat} (hv : ShV sh m) (ha : a < 8) (hm : m ≤ 8) : wz sh a m = wz sh a 8 := by
  have key : ∀ d n, n + d = 8 → m ≤ n → wz sh a n = wz sh a 8 := by
    intro d
    induction d with
    | zero => intro n hn _; have : n = 8 := by omega
              subst this; rfl
    | succ d ih =>
      intro n hn hmn
      rw [← ih (n + 1) (by omega) (by omega)]
      show _ = wz sh a n + (sh (8 * a + n)).toInt
      rw [((hv a n ha (by omega)).2.2 (Or.inr (Or.inr hmn)))]
      show _ = wz sh a n + 0
      omega
  exact key (8 - m) m (by omega) (Nat.le_refl m)
theorem wz_14 {sh : Nat → Int32} {m a : Nat} (hv : ShV sh m) (ha : a < 8) (hm : m ≤ 8) : 0 ≤ wz sh a m ∧ wz sh a m ≤ 14 := by
  rw [wz_8 hv ha hm]
  have h0 := (hv a 0 ha (by omega)).1
  have h1 := (hv a 1 ha (by omega)).1
  have h2 := (hv a 2 ha (by omega)).1
  have h3 := (hv a 3 ha (by omega)).1
  have h4 := (hv a 4 ha (by omega)).1
  have h5 := (hv a 5 ha (by omega)).1
  have h6 := (hv a 6 ha (by omega)).1
  have h7 := (hv a 7 ha (by omega)).1
  have hz : (sh (8 * a + a)).toInt = 0 := by rw [(hv a a ha ha).2.2 (Or.inl rfl)]; rfl
  have e : wz sh a 8 = 0 + (sh (8 * a + 0)).toInt + (sh (8 * a + 1)).toInt + (sh (8 * a + 2)).toInt + (sh (8 * a + 3)).toInt + (sh (8 * a + 4)).toInt + (sh (8 * a + 5)).toInt + (sh (8 * a + 6)).toInt + (sh (8 * a + 7)).toInt := rfl
  rw [e]
  have ea : a = 0 ∨ a = 1 ∨ a = 2 ∨ a = 3 ∨ a = 4 ∨ a = 5 ∨ a = 6 ∨ a = 7 := by omega
  rcases ea with rfl | rfl | rfl | rfl | rfl | rfl | rfl | rfl <;> omega
theorem neg_sh {sh : Nat → Int32} {m a c : Nat} (hv : ShV sh m) (ha : a < 8) (hc : c < 8) : (-(sh (8 * a + c))).toInt64.toInt = -(sh (8 * a + c)).toInt := by
  have h1 := (hv a c ha hc).1
  rw [Int32.toInt_toInt64, fb_negI (by omega)]
theorem flI_val {ro : Nat → Int64} {sh : Nat → Int32} {a : Nat} : ∀ (K : Nat), K ≤ 8 → ∀ (i c : Nat), c < 9 → flI ro sh a K (9 * i + c) = if i = a ∧ c < K then (-(sh (8 * a + c))).toInt64 else ro (9 * i + c) := by
  intro K
  induction K with
  | zero => intro _ i c hc; rw [if_neg (by omega)]; rfl
  | succ K ih =>
    intro hK i c hc
    have ih := ih (by omega)
    rw [flI]
    unfold vp_updL
    by_cases hq : 9 * i + c = 9 * a + K
    · have hia : i = a := by omega
      have hcK : c = K := by omega
      subst hia; subst hcK
      rw [if_pos rfl, if_pos ⟨rfl, by omega⟩]
    · rw [if_neg hq, ih i c hc]
      by_cases h1 : i = a ∧ c < K
      · rw [if_pos h1, if_pos ⟨h1.1, by omega⟩]
      · rw [if_neg h1, if_neg (fun z => h1 ⟨z.1, by have : ¬ (i = a ∧ c = K) := fun y => hq (by rw [y.1, y.2]); have := z.1; omega⟩)]
theorem flO_val {ro : Nat → Int64} {sh : Nat → Int32} {o m : Nat} : ∀ (n : Nat), n ≤ 8 → ∀ (i c : Nat), c < 9 → flO ro sh o m n (9 * i + c) = if i < n ∧ o.testBit i = true then (if c = i ∨ c = 8 then (wt sh i m).toInt64 else (-(sh (8 * i + c))).toInt64) else ro (9 * i + c) := by
  intro n
  induction n with
  | zero => intro _ i c hc; rw [if_neg (by omega)]; rfl
  | succ n ih =>
    intro hn i c hc
    have ih := ih (by omega)
    rw [flO]
    by_cases hb : o.testBit n = true
    · rw [if_pos hb]
      unfold vp_updL
      by_cases hin : i = n
      · subst hin
        rw [if_pos (show i < i + 1 ∧ o.testBit i = true from ⟨by omega, hb⟩)]
        by_cases h8 : c = 8
        · subst h8
          rw [if_pos rfl, if_pos (Or.inr rfl)]
        · rw [if_neg (by omega)]
          by_cases hci : c = i
          · subst hci
            rw [if_pos rfl, if_pos (Or.inl rfl)]
          · rw [if_neg (by omega), flI_val 8 (Nat.le_refl 8) i c hc, if_pos ⟨rfl, by omega⟩, if_neg (by omega)]
      · rw [if_neg (by omega), if_neg (by omega), flI_val 8 (Nat.le_refl 8) i c hc, if_neg (fun z => hin z.1), ih i c hc]
        by_cases h1 : i < n ∧ o.testBit i = true
        · rw [if_pos h1, if_pos (show i < n + 1 ∧ o.testBit i = true from ⟨by omega, h1.2⟩)]
        · rw [if_neg h1, if_neg (fun z => h1 ⟨by have := z.1; omega, z.2⟩)]
    · rw [if_neg hb, ih i c hc]
      by_cases h1 : i < n ∧ o.testBit i = true
      · rw [if_pos h1, if_pos (show i < n + 1 ∧ o.testBit i = true from ⟨by omega, h1.2⟩)]
      · rw [if_neg h1, if_neg (fun z => h1 ⟨by
          rcases Nat.lt_or_ge i n with h | h
          · exact h
          · have := z.1
            have e : i = n := by omega
            subst e
            exact absurd z.2 hb, z.2⟩)]
/-- the class's rows as they begin, in whole numbers -/
theorem fl_z {ro : Nat → Int64} {sh : Nat → Int32} {o m : Nat} (hv : ShV sh m) (hm : m ≤ 8) {i : Nat} (hi : i < m ∧ o.testBit i = true) : (∀ c, c < 8 → c ≠ i → Mz (flO ro sh o m m) i c = -(sh (8 * i + c)).toInt) ∧ Mz (flO ro sh o m m) i i = wz sh i m ∧ Mz (flO ro sh o m m) i 8 = wz sh i m := by
  have i8 : i < 8 := by omega
  refine ⟨fun c hc hci => ?_, ?_, ?_⟩
  · unfold Mz
    rw [if_pos (by omega), flO_val m hm i c (by omega), if_pos hi, if_neg (by omega), neg_sh hv i8 hc]
  · unfold Mz
    rw [if_pos (by omega), flO_val m hm i i (by omega), if_pos hi, if_pos (Or.inl rfl), Int32.toInt_toInt64, wt_z hv i8 m hm]
  · unfold Mz
    rw [if_pos (by omega), flO_val m hm i 8 (by omega), if_pos hi, if_pos (Or.inr rfl), Int32.toInt_toInt64, wt_z hv i8 m hm]
theorem rcF_LS' (ki sh : Nat → Int32) (m i : Nat) (h : (rcF ki sh m).testBit i = true) : i < m := (rcF_LS ki sh m).1 i h
theorem opN_bit (ki sh : Nat → Int32) (m i : Nat) : (opN ki sh m).testBit i = true ↔ (rcF ki sh m).testBit i = true ∧ ¬ (ki i = 1 ∨ ki i = 3) := by
  unfold opN
  rw [andn_bit, Bool.and_eq_true]
  have hfx : (fxN ki m).testBit i = true ↔ i < m ∧ (ki i = 1 ∨ ki i = 3) := by unfold fxN; rw [enc_bit]; simp [fxB]
  constructor
  · rintro ⟨h1, h2⟩
    refine ⟨h1, fun z => ?_⟩
    have := (rcF_LS' ki sh m i h1)
    rw [(hfx.mpr ⟨this, z⟩)] at h2
    exact absurd h2 (by decide)
  · rintro ⟨h1, h2⟩
    refine ⟨h1, ?_⟩
    cases hb : (fxN ki m).testBit i
    · rfl
    · exact absurd (hfx.mp hb).2 h2
theorem op_lt (ki sh : Nat → Int32) (m : Nat) : ∀ i, (opN ki sh m).testBit i = true → i < m := fun i h => rcF_LS' ki sh m i ((opN_bit ki sh m i).mp h).1
theorem op_some (ki sh : Nat → Int32) {m : Nat} (hm : m ≤ 8) : ∃ f, f < 8 ∧ ¬ (f < m ∧ (opN ki sh m).testBit f = true) := by
  by_cases h8 : m = 8
  · subst h8
    refine Classical.byContradiction fun hc => ?_
    have hall : ∀ f, f < 8 → (opN ki sh 8).testBit f = true := fun f hf => Classical.byContradiction fun z => hc ⟨f, hf, fun y => z y.2⟩
    have h0 := (opN_bit ki sh 8 0).mp (hall 0 (by omega))
    exact (rcF_LS ki sh 8).2.2.2 (fun _ => False) (fun i hi hf => ((opN_bit ki sh 8 i).mp (hall i hi)).2 hf) (fun i j _ _ h _ => h) 0 h0.1
  · exact ⟨m, by omega, fun z => by omega⟩
theorem start_BS {ro : Nat → Int64} {ki sh : Nat → Int32} {m : Nat} (hv : ShV sh m) (hm : m ≤ 8) : (∀ i, i < m ∧ (opN ki sh m).testBit i = true → sm8 (Mz (flO ro sh (opN ki sh m) m m) i) = 0) ∧ BS (Mz (flO ro sh (opN ki sh m) m m)) [] 1 (fun i => i < m ∧ (opN ki sh m).testBit i = true) := by
  have hs1 : ∀ i, i < m ∧ (opN ki sh m).testBit i = true → ∀ j, j < 8 → j ≠ i → Mz (flO ro sh (opN ki sh m) m m) i j ≤ 0 := by
    intro i hi j hj hji
    rw [(fl_z hv hm hi).1 j hj hji]
    have := (hv i j (by omega) hj).1
    omega
  have hs2 : ∀ i, i < m ∧ (opN ki sh m).testBit i = true → sm8 (Mz (flO ro sh (opN ki sh m) m m) i) = 0 := by
    intro i hi
    have i8 : i < 8 := by omega
    obtain ⟨f1, f2, f3⟩ := fl_z (ro := ro) hv hm hi
    have hz : (sh (8 * i + i)).toInt = 0 := by rw [(hv i i i8 i8).2.2 (Or.inl rfl)]; rfl
    have e : wz sh i 8 = 0 + (sh (8 * i + 0)).toInt + (sh (8 * i + 1)).toInt + (sh (8 * i + 2)).toInt + (sh (8 * i + 3)).toInt + (sh (8 * i + 4)).toInt + (sh (8 * i + 5)).toInt + (sh (8 * i + 6)).toInt + (sh (8 * i + 7)).toInt := rfl
    rw [wz_8 hv i8 hm, e] at f2
    unfold sm8
    have ei : i = 0 ∨ i = 1 ∨ i = 2 ∨ i = 3 ∨ i = 4 ∨ i = 5 ∨ i = 6 ∨ i = 7 := by omega
    have g : ∀ c, c < 8 → Mz (flO ro sh (opN ki sh m) m m) i c = if c = i then Mz (flO ro sh (opN ki sh m) m m) i i else -(sh (8 * i + c)).toInt := by
      intro c hc
      by_cases h : c = i
      · rw [if_pos h, h]
      · rw [if_neg h, f1 c hc h]
    rw [g 0 (by omega), g 1 (by omega), g 2 (by omega), g 3 (by omega), g 4 (by omega), g 5 (by omega), g 6 (by omega), g 7 (by omega)]
    rcases ei with rfl | rfl | rfl | rfl | rfl | rfl | rfl | rfl <;> (simp only [Nat.reduceEqDiff, if_true, if_false, reduceCtorEq, ite_true, ite_false] at *; first | omega | (simp; omega))
  refine ⟨hs2, hs1, hs2, ?_, ?_, by decide, ?_⟩
  · intro i hi
    rw [(fl_z hv hm hi).2.2]
    have := wz_14 hv (show i < 8 by omega) hm
    exact ⟨this.1, by simpa using this.2, fun z => by cases z⟩
  · intro i hi _
    rw [(fl_z hv hm hi).2.1]
    have := wz_14 hv (show i < 8 by omega) hm
    omega
  · intro S hne hS
    refine Classical.byContradiction fun hc => ?_
    obtain ⟨i, hi⟩ := hne
    have hin : ∀ i j, S i → j < 8 → ¬ S j → (sh (8 * i + j)).toInt = 0 := by
      intro i j hi hj hSj
      have hio := (hS i hi).1
      have hji : j ≠ i := fun z => hSj (z ▸ hi)
      have h1 := (hv i j (by omega) hj).1
      rcases Int.lt_or_le 0 (sh (8 * i + j)).toInt with h | h
      · exact absurd ⟨i, j, hi, hSj, hj, (fun z => by cases z), by rw [(fl_z hv hm hio).1 j hj hji]; omega⟩ hc
      · omega
    have hr := ((opN_bit ki sh m i).mp (hS i hi).1.2).1
    refine (rcF_LS ki sh m).2.2.2 (fun x => ¬ S x) (fun x hx hf hSx => ((opN_bit ki sh m x).mp (hS x hSx).1.2).2 hf) (fun x y hx hy hSx hxy hSy => ?_) i hr hi
    have h1 := hin y x hSy (by omega) hSx
    rw [(hv y x (by omega) (by omega)).2.1] at h1
    apply hxy
    rw [fa_le, h1]
    decide

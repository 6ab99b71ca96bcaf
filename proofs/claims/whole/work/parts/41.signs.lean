/-! 2: signs, sums of rows, bounds, and a way out of every set of open houses -/
def sm8 (u : Nat → Int) : Int := u 0 + u 1 + u 2 + u 3 + u 4 + u 5 + u 6 + u 7
theorem Lin_sm8 : Lin sm8 := fun a b u v => by unfold sm8; grind
theorem mnn {a b : Int} (ha : a ≤ 0) (hb : b ≤ 0) : 0 ≤ a * b := by
  have := Int.mul_nonneg (show 0 ≤ -a by omega) (show 0 ≤ -b by omega)
  grind
theorem mpn {a b : Int} (ha : 0 ≤ a) (hb : b ≤ 0) : a * b ≤ 0 := by
  have := Int.mul_nonneg ha (show 0 ≤ -b by omega)
  grind
theorem mle {a b c : Int} (hc : 0 ≤ c) (h : a ≤ b) : c * a ≤ c * b := Int.mul_le_mul_of_nonneg_left h hc
theorem dle {d a b : Int} (hd : 0 < d) (h : d * a ≤ d * b) : a ≤ b := Int.le_of_mul_le_mul_left h hd
/-- in a row whose sum is 0 and in which no entry but its own is above 0, its own is the largest -/
theorem row_own {u : Nat → Int} {i : Nat} (hi : i < 8) (hs : sm8 u = 0) (hn : ∀ j, j < 8 → j ≠ i → u j ≤ 0) : ∀ j, j < 8 → j ≠ i → -(u j) ≤ u i := by
  unfold sm8 at hs
  have h0 := hn 0 (by omega)
  have h1 := hn 1 (by omega)
  have h2 := hn 2 (by omega)
  have h3 := hn 3 (by omega)
  have h4 := hn 4 (by omega)
  have h5 := hn 5 (by omega)
  have h6 := hn 6 (by omega)
  have h7 := hn 7 (by omega)
  intro j hj hji
  have ei : i = 0 ∨ i = 1 ∨ i = 2 ∨ i = 3 ∨ i = 4 ∨ i = 5 ∨ i = 6 ∨ i = 7 := by omega
  have ej : j = 0 ∨ j = 1 ∨ j = 2 ∨ j = 3 ∨ j = 4 ∨ j = 5 ∨ j = 6 ∨ j = 7 := by omega
  rcases ei with rfl | rfl | rfl | rfl | rfl | rfl | rfl | rfl <;> rcases ej with rfl | rfl | rfl | rfl | rfl | rfl | rfl | rfl <;> first | (exact absurd rfl hji) | (simp at h0 h1 h2 h3 h4 h5 h6 h7; omega)
theorem row_nn {u : Nat → Int} {i : Nat} (hi : i < 8) (hs : sm8 u = 0) (hn : ∀ j, j < 8 → j ≠ i → u j ≤ 0) : 0 ≤ u i := by
  have h := row_own hi hs hn
  by_cases hz : i = 0
  · have h1 := h 1 (by omega) (by omega)
    have h2 := hn 1 (by omega) (by omega)
    omega
  · have h1 := h 0 (by omega) (by omega)
    have h2 := hn 0 (by omega) (by omega)
    omega
def BS (M : Nat → Nat → Int) (K : List Nat) (d : Int) (op : Nat → Prop) : Prop :=
  (∀ i, op i → ∀ j, j < 8 → j ≠ i → M i j ≤ 0) ∧ (∀ i, op i → sm8 (M i) = 0) ∧ (∀ i, op i → 0 ≤ M i 8 ∧ M i 8 ≤ 14 * 28 ^ K.length ∧ (i ∈ K → M i 8 ≤ 28 ^ K.length)) ∧ (∀ i, op i → i ∉ K → M i i ≤ 14 * d) ∧ d ≤ 14 ^ K.length ∧
  (∀ S : Nat → Prop, (∃ i, S i) → (∀ i, S i → op i ∧ i ∉ K) → ∃ i j, S i ∧ ¬ S j ∧ j < 8 ∧ j ∉ K ∧ M i j < 0)
theorem BS_piv {M : Nat → Nat → Int} {K : List Nat} {d : Int} {op : Nat → Prop} {k : Nat} (h : BS M K d op) (hk8 : k < 8) (hk : op k) (hkK : k ∉ K) : 0 < M k k := by
  obtain ⟨s1, s2, s3, b1, b2, ct⟩ := h
  obtain ⟨i, j, hi, hj, hj8, hjK, hneg⟩ := ct (fun i => i = k) ⟨k, rfl⟩ (fun i hi => by subst hi; exact ⟨hk, hkK⟩)
  subst hi
  have := row_own hk8 (s2 i hk) (s1 i hk) j hj8 hj
  omega
theorem BS_step {A M M' : Nat → Nat → Int} {K : List Nat} {d : Int} {op : Nat → Prop} {k : Nat} (hop8 : ∀ i, op i → i < 8) (hA : ∀ i, op i → sm8 (A i) = 0) (hB : BI A M K d op) (hB' : BI A M' (k :: K) (M k k) op) (h : BS M K d op) (hk : op k) (hkK : k ∉ K) (hMk : M' k = M k) (hex : ∀ i, op i → i ≠ k → ∀ c, d * M' i c = M k k * M i c - M i k * M k c) : BS M' (k :: K) (M k k) op := by
  have hp : 0 < M k k := BS_piv h (hop8 k hk) hk hkK
  have hd : 0 < d := hB.1
  have k8 := hop8 k hk
  obtain ⟨s1, s2, s3, b1, b2, ct⟩ := h
  have hb1k : M k k ≤ 14 * d := b1 k hk hkK
  -- the sign of another row's entry in the pivot's column, and how large it is
  have hik0 : ∀ i, op i → i ≠ k → M i k ≤ 0 := fun i hi hik => s1 i hi k k8 (fun z => hik z.symm)
  have hikb : ∀ i, op i → i ≠ k → -(M i k) ≤ 14 * d := by
    intro i hi hik
    have e := row_own (hop8 i hi) (s2 i hi) (s1 i hi) k k8 (fun z => hik z.symm)
    by_cases hiK : i ∈ K
    · have := (hB.2.2.2.1 i hiK).1
      omega
    · have := b1 i hi hiK
      omega
  refine ⟨?_, ?_, ?_, ?_, ?_, ?_⟩
  · intro i hi j hj hji
    by_cases hik : i = k
    · subst hik; rw [hMk]; exact s1 i hi j hj hji
    · have e := hex i hi hik j
      by_cases hjk : j = k
      · subst hjk
        have : d * M' i j = 0 := by rw [e]; grind
        have := (Int.mul_eq_zero.mp this).resolve_left (by omega)
        omega
      · have h1 := mpn (show 0 ≤ M k k by omega) (s1 i hi j hj hji)
        have h2 := mnn (hik0 i hi hik) (s1 k hk j hj hjk)
        exact dle hd (by rw [e]; simp; omega)
  · intro i hi
    by_cases hiK : i ∈ k :: K
    · exact (hB'.2.2.2.2.2 sm8 Lin_sm8 (fun t ht => hA t (hB'.2.2.1 t ht))).1 i hiK
    · rw [(hB'.2.2.2.2.2 sm8 Lin_sm8 (fun t ht => hA t (hB'.2.2.1 t ht))).2 i hi hiK, hA i hi]
      simp
  · intro i hi
    have hpow : (28 : Int) ^ (k :: K).length = 28 ^ K.length * 28 := by rw [List.length_cons, Int.pow_succ]
    obtain ⟨k31, k32, -⟩ := s3 k hk
    obtain ⟨i31, i32, i33⟩ := s3 i hi
    rw [hpow]
    have hpp : (0 : Int) < 28 ^ K.length := Int.pow_pos (by decide)
    by_cases hik : i = k
    · subst hik; rw [hMk]; exact ⟨i31, by omega, fun _ => by omega⟩
    · have e := hex i hi hik 8
      have h1 := Int.mul_nonneg (show 0 ≤ M k k by omega) i31
      have h2 := mpn k31 (hik0 i hi hik)
      refine ⟨?_, ?_, ?_⟩
      · exact dle hd (by rw [e]; grind)
      · refine dle hd ?_
        rw [e]
        generalize hB0 : (14 : Int) * 28 ^ K.length = B at *
        have q1 : M k k * M i 8 ≤ M k k * B := mle (by omega) i32
        have q2 : B * M k k ≤ B * (14 * d) := mle (by omega) hb1k
        have q3 : -(M i k) * M k 8 ≤ -(M i k) * B := mle (by have := hik0 i hi hik; omega) k32
        have q4 : B * -(M i k) ≤ B * (14 * d) := mle (by omega) (hikb i hi hik)
        have q5 : d * (14 * (28 ^ K.length * 28)) = d * (B * 28) := by rw [← hB0]; grind
        rw [q5]
        grind
      · intro hiK
        have hiK' : i ∈ K := by
          rcases List.mem_cons.mp hiK with z | z
          · exact absurd z hik
          · exact z
        have hii := (hB.2.2.2.1 i hiK').1
        have hio := row_own (hop8 i hi) (s2 i hi) (s1 i hi) k k8 (fun z => hik z.symm)
        rw [hii] at hio
        refine dle hd ?_
        rw [e]
        have i34 := i33 hiK'
        generalize (28 : Int) ^ K.length = C at *
        have q1 : M k k * M i 8 ≤ M k k * C := mle (by omega) i34
        have q2 : C * M k k ≤ C * (14 * d) := mle (by omega) hb1k
        have q3 : -(M i k) * M k 8 ≤ -(M i k) * (14 * C) := mle (by have := hik0 i hi hik; omega) k32
        have q4 : (14 * C) * -(M i k) ≤ (14 * C) * d := mle (by omega) hio
        grind
  · intro i hi hiK
    have hik : i ≠ k := fun z => hiK (z ▸ List.mem_cons_self)
    have hiK' : i ∉ K := fun z => hiK (List.mem_cons_of_mem _ z)
    have e := hex i hi hik i
    have h1 := mnn (hik0 i hi hik) (s1 k hk i (hop8 i hi) hik)
    have h2 : M k k * M i i ≤ M k k * (14 * d) := mle (by omega) (b1 i hi hiK')
    exact dle hd (by rw [e]; grind)
  · rw [List.length_cons, Int.pow_succ]
    omega
  · intro S hne hS
    have hSk : ¬ S k := fun z => (hS k z).2 List.mem_cons_self
    have hSo : ∀ i, S i → op i ∧ i ≠ k ∧ i ∉ K := fun i hi => ⟨(hS i hi).1, fun z => hSk (z ▸ hi), fun z => (hS i hi).2 (List.mem_cons_of_mem _ z)⟩
    -- an entry below 0 stays below 0, away from the pivot's column
    have keep : ∀ i j, S i → ¬ S j → j < 8 → j ∉ K → j ≠ k → M i j < 0 → M' i j < 0 := by
      intro i j hi hj hj8 hjK hjk hneg
      obtain ⟨hio, hik, hiK⟩ := hSo i hi
      have e := hex i hio hik j
      have h1 : M k k * M i j < 0 := by
        have := Int.mul_pos hp (show 0 < -(M i j) by omega)
        grind
      have h2 := mnn (hik0 i hio hik) (s1 k hk j hj8 hjk)
      have h3 : d * M' i j < 0 := by rw [e]; omega
      rcases Int.lt_or_le (M' i j) 0 with h4 | h4
      · exact h4
      · have := Int.mul_nonneg (show 0 ≤ d by omega) h4
        omega
    obtain ⟨i, j, hi, hj, hj8, hjK, hneg⟩ := ct S hne (fun i hi => ⟨(hSo i hi).1, (hSo i hi).2.2⟩)
    by_cases hjk : j = k
    · subst hjk
      obtain ⟨i2, j2, hi2, hj2, hj28, hj2K, hneg2⟩ := ct (fun x => S x ∨ x = j) ⟨i, Or.inl hi⟩ (fun x hx => by
        rcases hx with hx | rfl
        · exact ⟨(hSo x hx).1, (hSo x hx).2.2⟩
        · exact ⟨hk, hkK⟩)
      have hj2S : ¬ S j2 := fun z => hj2 (Or.inl z)
      have hj2k : j2 ≠ j := fun z => hj2 (Or.inr z)
      rcases hi2 with hi2 | rfl
      · exact ⟨i2, j2, hi2, hj2S, hj28, fun z => by
          rcases List.mem_cons.mp z with z | z
          · exact hj2k z
          · exact hj2K z, keep i2 j2 hi2 hj2S hj28 hj2K hj2k hneg2⟩
      · obtain ⟨hio, hik, hiK⟩ := hSo i hi
        have e := hex i hio hik j2
        have h1 : 0 < M i i2 * M i2 j2 := by
          have := Int.mul_pos (show 0 < -(M i i2) by omega) (show 0 < -(M i2 j2) by omega)
          grind
        have h2 : M i2 i2 * M i j2 ≤ 0 := by
          refine mpn (by omega) (s1 i hio j2 hj28 (fun z => hj2S (z ▸ hi)))
        have h3 : d * M' i j2 < 0 := by rw [e]; omega
        refine ⟨i, j2, hi, hj2S, hj28, fun z => ?_, ?_⟩
        · rcases List.mem_cons.mp z with z | z
          · exact hj2k z
          · exact hj2K z
        · rcases Int.lt_or_le (M' i j2) 0 with h4 | h4
          · exact h4
          · have := Int.mul_nonneg (show 0 ≤ d by omega) h4
            omega
    · exact ⟨i, j, hi, hj, hj8, fun z => by
        rcases List.mem_cons.mp z with z | z
        · exact hjk z
        · exact hjK z, keep i j hi hj hj8 hjK hjk hneg⟩

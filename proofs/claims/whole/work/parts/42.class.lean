/-! 3: the class's elimination, in whole numbers -/
theorem toInt_div64 {x d : Int64} (hd : 0 < d.toInt) : (x / d).toInt = x.toInt.tdiv d.toInt := by
  have hx := fb_rngL x
  rw [Int64.toInt_div]
  have h1 : (x.toInt.tdiv d.toInt).natAbs ≤ x.toInt.natAbs := Int.natAbs_tdiv_le_natAbs _ _
  have h2 : x.toInt.tdiv d.toInt < 9223372036854775808 := by
    rcases Int.lt_or_le x.toInt 0 with h | h
    · have : x.toInt.tdiv d.toInt ≤ 0 := by
        have e : (-x.toInt).tdiv d.toInt = -(x.toInt.tdiv d.toInt) := Int.neg_tdiv ..
        have := Int.tdiv_nonneg (show 0 ≤ -x.toInt by omega) (show 0 ≤ d.toInt by omega)
        omega
      omega
    · omega
  exact fb_bmodL (by omega) h2
theorem t64 {a b c e d : Int64} {B : Int} (hB : 2 * B < 9223372036854775808) (h1 : -B ≤ a.toInt * b.toInt ∧ a.toInt * b.toInt ≤ B) (h2 : -B ≤ c.toInt * e.toInt ∧ c.toInt * e.toInt ≤ B) (hd : 0 < d.toInt) : ((a * b - c * e) / d).toInt = (a.toInt * b.toInt - c.toInt * e.toInt).tdiv d.toInt := by
  have e1 := fb_mulL (x := a) (y := b) (by omega) (by omega)
  have e2 := fb_mulL (x := c) (y := e) (by omega) (by omega)
  have e3 := fb_subL (x := a * b) (y := c * e) (by rw [e1, e2]; omega) (by rw [e1, e2]; omega)
  rw [toInt_div64 hd, e3, e1, e2]
theorem mul_bd {a b X Y : Int} (ha : -X ≤ a ∧ a ≤ X) (hb : -Y ≤ b ∧ b ≤ Y) : -(X * Y) ≤ a * b ∧ a * b ≤ X * Y := by
  have hX : 0 ≤ X := by omega
  have hY : 0 ≤ Y := by omega
  have n1 : (a * b).natAbs ≤ (X * Y).natAbs := by
    rw [Int.natAbs_mul, Int.natAbs_mul]
    exact Nat.mul_le_mul (by omega) (by omega)
  have n2 : 0 ≤ X * Y := Int.mul_nonneg hX hY
  omega
/-- the open houses below k, the last first -/
def opL (o : Nat) : Nat → List Nat
  | 0 => []
  | k + 1 => if o.testBit k = true then k :: opL o k else opL o k
theorem opL_mem (o : Nat) : ∀ (k i : Nat), i ∈ opL o k ↔ i < k ∧ o.testBit i = true
  | 0, i => by simp [opL]
  | k + 1, i => by
    have ih := opL_mem o k i
    unfold opL
    split
    · rename_i hk
      rw [List.mem_cons, ih]
      constructor
      · rintro (rfl | ⟨h1, h2⟩)
        · exact ⟨by omega, hk⟩
        · exact ⟨by omega, h2⟩
      · rintro ⟨h1, h2⟩
        rcases Nat.lt_or_ge i k with h | h
        · exact Or.inr ⟨h, h2⟩
        · exact Or.inl (by omega)
    · rename_i hk
      rw [ih]
      constructor
      · rintro ⟨h1, h2⟩; exact ⟨by omega, h2⟩
      · rintro ⟨h1, h2⟩
        refine ⟨?_, h2⟩
        rcases Nat.lt_or_ge i k with h | h
        · exact h
        · have : i = k := by omega
          subst this
          exact absurd h2 hk
theorem opL_len (o : Nat) : ∀ k, (opL o k).length ≤ k ∧ ∀ f, f < k → ¬ o.testBit f = true → (opL o k).length + 1 ≤ k
  | 0 => ⟨Nat.le_refl 0, fun f h => absurd h (Nat.not_lt_zero f)⟩
  | k + 1 => by
    obtain ⟨h1, h2⟩ := opL_len o k
    unfold opL
    split
    · rename_i hk
      rw [List.length_cons]
      refine ⟨by omega, fun f hf hb => ?_⟩
      have hfk : f < k := by
        rcases Nat.lt_or_ge f k with h | h
        · exact h
        · have : f = k := by omega
          subst this
          exact absurd hk hb
      have := h2 f hfk hb
      omega
    · exact ⟨by omega, fun f hf hb => by omega⟩
theorem crF_val {ro : Nat → Int64} {a p : Nat} {d own oth : Int64} (hap : a ≠ p) : ∀ (k : Nat), k ≤ 9 → ∀ (i c : Nat), c < 9 → crF ro a p d own oth k (9 * i + c) = if i = a ∧ c < k then (own * ro (9 * a + c) - oth * ro (9 * p + c)) / d else ro (9 * i + c) := by
  intro k
  induction k with
  | zero => intro _ i c hc; rw [if_neg (by omega)]; rfl
  | succ k ih =>
    intro hk i c hc
    have ih := ih (by omega)
    rw [crF]
    unfold vp_updL
    by_cases hq : 9 * i + c = 9 * a + k
    · have hia : i = a := by omega
      have hck : c = k := by omega
      subst hia; subst hck
      rw [if_pos rfl, if_pos ⟨rfl, by omega⟩, ih i c hc, if_neg (by omega), ih p c hc, if_neg (by omega)]
    · rw [if_neg hq, ih i c hc]
      by_cases h1 : i = a ∧ c < k
      · rw [if_pos h1, if_pos ⟨h1.1, by omega⟩]
      · rw [if_neg h1, if_neg (fun z => h1 ⟨z.1, by have : ¬ (i = a ∧ c = k) := fun y => hq (by rw [y.1, y.2]); have := z.1; omega⟩)]
theorem crA_val {ro : Nat → Int64} {a p : Nat} {d : Int64} (hap : a ≠ p) (hd : ¬ d = 0) (i c : Nat) (hc : c < 9) : crA ro a p d (9 * i + c) = if i = a then (ro (9 * p + p) * ro (9 * a + c) - ro (9 * a + p) * ro (9 * p + c)) / d else ro (9 * i + c) := by
  unfold crA
  rw [if_neg hd, crF_val hap 9 (Nat.le_refl 9) i c hc]
  by_cases h : i = a
  · rw [if_pos ⟨h, hc⟩, if_pos h]
  · rw [if_neg (fun z => h z.1), if_neg h]
theorem ciF_val {ro : Nat → Int64} {o k : Nat} {d : Int64} (hk : k < 9) (hd : ¬ d = 0) : ∀ (n : Nat) (i c : Nat), c < 9 → ciF ro o k d n (9 * i + c) = if i < n ∧ i ≠ k ∧ o.testBit i = true then (ro (9 * k + k) * ro (9 * i + c) - ro (9 * i + k) * ro (9 * k + c)) / d else ro (9 * i + c) := by
  intro n
  induction n with
  | zero => intro i c hc; rw [if_neg (by omega)]; rfl
  | succ n ih =>
    intro i c hc
    rw [ciF]
    by_cases hn : n ≠ k ∧ o.testBit n = true
    · rw [if_pos hn, crA_val hn.1 hd i c hc]
      by_cases hin : i = n
      · subst hin
        rw [if_pos rfl, if_pos ⟨by omega, hn⟩, ih k k hk, if_neg (fun z => z.2.1 rfl), ih i c hc, if_neg (by omega), ih i k hk, if_neg (by omega), ih k c hc, if_neg (fun z => z.2.1 rfl)]
      · rw [if_neg hin, ih i c hc]
        by_cases h1 : i < n ∧ i ≠ k ∧ o.testBit i = true
        · rw [if_pos h1, if_pos ⟨by omega, h1.2⟩]
        · rw [if_neg h1, if_neg (fun z => h1 ⟨by have := z.1; omega, z.2⟩)]
    · rw [if_neg hn, ih i c hc]
      by_cases h1 : i < n ∧ i ≠ k ∧ o.testBit i = true
      · rw [if_pos h1, if_pos ⟨by omega, h1.2⟩]
      · rw [if_neg h1, if_neg (fun z => h1 ⟨by
          rcases Nat.lt_or_ge i n with h | h
          · exact h
          · have : i = n := by omega
            subst this
            exact absurd z.2 hn, z.2⟩)]
/-- rows as whole numbers -/
def Mz (ro : Nat → Int64) (i c : Nat) : Int := if c < 9 then (ro (9 * i + c)).toInt else 0
/-- what the state of rows bounds -/
theorem BS_bd {A M : Nat → Nat → Int} {K : List Nat} {d : Int} {op : Nat → Prop} (hop8 : ∀ i, op i → i < 8) (hB : BI A M K d op) (h : BS M K d op) : ∀ i, op i → ∀ c, c < 8 → -(14 * d) ≤ M i c ∧ M i c ≤ 14 * d := by
  intro i hi c hc
  obtain ⟨s1, s2, s3, b1, b2, ct⟩ := h
  have hd := hB.1
  have hii : 0 ≤ M i i ∧ M i i ≤ 14 * d := by
    refine ⟨row_nn (hop8 i hi) (s2 i hi) (s1 i hi), ?_⟩
    by_cases hiK : i ∈ K
    · have := (hB.2.2.2.1 i hiK).1
      omega
    · exact b1 i hi hiK
  by_cases hci : c = i
  · subst hci; omega
  · have h1 := s1 i hi c hc hci
    have h2 := row_own (hop8 i hi) (s2 i hi) (s1 i hi) c hc hci
    omega
theorem pow14 : ∀ k, k ≤ 6 → (14 : Int) ^ k ≤ 7529536 := by decide
theorem pow28 : ∀ k, k ≤ 6 → (14 : Int) * 28 ^ k ≤ 6746464256 := by decide
theorem cls_one {ro : Nat → Int64} {o m k : Nat} (hm : m ≤ 8) (hA : ∀ i, i < m ∧ o.testBit i = true → sm8 (Mz ro i) = 0) (hf : ∃ f, f < 8 ∧ ¬ (f < m ∧ o.testBit f = true)) (hom : ∀ i, o.testBit i = true → i < m) (hk : k + 1 ≤ m) (hb : o.testBit k = true) (hB : BI (Mz ro) (Mz (coF ro o m k).1) (opL o k) (coF ro o m k).2.toInt (fun i => i < m ∧ o.testBit i = true)) (hS : BS (Mz (coF ro o m k).1) (opL o k) (coF ro o m k).2.toInt (fun i => i < m ∧ o.testBit i = true)) :
    (∀ i, i < m ∧ o.testBit i = true → i ≠ k → ∀ c, (coF ro o m k).2.toInt * Mz (coF ro o m (k + 1)).1 i c = Mz (coF ro o m k).1 k k * Mz (coF ro o m k).1 i c - Mz (coF ro o m k).1 i k * Mz (coF ro o m k).1 k c) ∧ Mz (coF ro o m (k + 1)).1 k = Mz (coF ro o m k).1 k ∧ (coF ro o m (k + 1)).2.toInt = Mz (coF ro o m k).1 k k ∧ BI (Mz ro) (Mz (coF ro o m (k + 1)).1) (opL o (k + 1)) (coF ro o m (k + 1)).2.toInt (fun i => i < m ∧ o.testBit i = true) ∧ BS (Mz (coF ro o m (k + 1)).1) (opL o (k + 1)) (coF ro o m (k + 1)).2.toInt (fun i => i < m ∧ o.testBit i = true) := by
  rw [coF, opL, if_pos hb, if_pos hb]
  generalize hM : Mz (coF ro o m k).1 = M at hB hS
  generalize hdd : (coF ro o m k).2 = d at hB hS
  have hop8 : ∀ i, (i < m ∧ o.testBit i = true) → i < 8 := fun i hi => by omega
  have hkop : k < m ∧ o.testBit k = true := ⟨by omega, hb⟩
  have hkK : k ∉ opL o k := fun z => by have := ((opL_mem o k k).mp z).1; omega
  have hp : 0 < M k k := BS_piv hS (by omega) hkop hkK
  have hd : 0 < d.toInt := hB.1
  have hd0 : ¬ d = 0 := fun z => by rw [z] at hd; exact absurd hd (by decide)
  have hlen : (opL o k).length ≤ 6 := by
    obtain ⟨f, hf8, hfo⟩ := hf
    obtain ⟨l1, l2⟩ := opL_len o k
    rcases Nat.lt_or_ge f k with h | h
    · have := l2 f h (fun z => hfo ⟨hom f z, z⟩)
      omega
    · have : f ≠ k := fun z => hfo (z ▸ hkop)
      omega
  have hdb : d.toInt ≤ 7529536 := Int.le_trans hS.2.2.2.2.1 (pow14 _ hlen)
  have hbd := BS_bd hop8 hB hS
  have hMe : ∀ i c, c < 9 → M i c = ((coF ro o m k).1 (9 * i + c)).toInt := fun i c hc => by rw [← hM]; unfold Mz; rw [if_pos hc]
  have hval : ∀ i c, c < 9 → Mz (ciF (coF ro o m k).1 o k d m) i c = if i < m ∧ i ≠ k ∧ o.testBit i = true then (M k k * M i c - M i k * M k c).tdiv d.toInt else M i c := by
    intro i c hc
    unfold Mz
    rw [if_pos hc, ciF_val (by omega) hd0 m i c hc]
    by_cases hi : i < m ∧ i ≠ k ∧ o.testBit i = true
    · rw [if_pos hi, if_pos hi]
      have hio : i < m ∧ o.testBit i = true := ⟨hi.1, hi.2.2⟩
      rw [hMe k k (by omega), hMe i c hc, hMe i k (by omega), hMe k c hc]
      have p1 := hbd k hkop k (by omega)
      have p2 := hbd i hio k (by omega)
      rw [hMe k k (by omega)] at p1
      rw [hMe i k (by omega)] at p2
      have hX : (14 : Int) * d.toInt ≤ 105413504 := by omega
      by_cases hc8 : c < 8
      · have p3 := hbd i hio c hc8
        have p4 := hbd k hkop c hc8
        rw [hMe i c hc] at p3
        rw [hMe k c hc] at p4
        have m1 := mul_bd (X := 105413504) (Y := 105413504) ⟨by omega, by omega⟩ (show -105413504 ≤ ((coF ro o m k).1 (9 * i + c)).toInt ∧ ((coF ro o m k).1 (9 * i + c)).toInt ≤ 105413504 by omega) (a := ((coF ro o m k).1 (9 * k + k)).toInt)
        have m2 := mul_bd (X := 105413504) (Y := 105413504) ⟨by omega, by omega⟩ (show -105413504 ≤ ((coF ro o m k).1 (9 * k + c)).toInt ∧ ((coF ro o m k).1 (9 * k + c)).toInt ≤ 105413504 by omega) (a := ((coF ro o m k).1 (9 * i + k)).toInt)
        exact t64 (B := 105413504 * 105413504) (by decide) m1 m2 hd
      · have hc9 : c = 8 := by omega
        subst hc9
        obtain ⟨p31, p32, -⟩ := hS.2.2.1 i hio
        obtain ⟨p41, p42, -⟩ := hS.2.2.1 k hkop
        have p3 := And.intro p31 p32
        have p4 := And.intro p41 p42
        have hY := pow28 _ hlen
        rw [hMe i 8 hc] at p3
        rw [hMe k 8 hc] at p4
        have m1 := mul_bd (X := 105413504) (Y := 6746464256) ⟨by omega, by omega⟩ (show -6746464256 ≤ ((coF ro o m k).1 (9 * i + 8)).toInt ∧ ((coF ro o m k).1 (9 * i + 8)).toInt ≤ 6746464256 by omega) (a := ((coF ro o m k).1 (9 * k + k)).toInt)
        have m2 := mul_bd (X := 105413504) (Y := 6746464256) ⟨by omega, by omega⟩ (show -6746464256 ≤ ((coF ro o m k).1 (9 * k + 8)).toInt ∧ ((coF ro o m k).1 (9 * k + 8)).toInt ≤ 6746464256 by omega) (a := ((coF ro o m k).1 (9 * i + k)).toInt)
        exact t64 (B := 105413504 * 6746464256) (by decide) m1 m2 hd
    · rw [if_neg hi, if_neg hi, hMe i c hc]
  have hMk' : Mz (ciF (coF ro o m k).1 o k d m) k = M k := by
    funext c
    by_cases hc : c < 9
    · rw [hval k c hc, if_neg (fun z => z.2.1 rfl)]
    · rw [← hM]; unfold Mz; rw [if_neg hc, if_neg hc]
  have hM' : ∀ i, (i < m ∧ o.testBit i = true) → i ≠ k → ∀ c, Mz (ciF (coF ro o m k).1 o k d m) i c = (M k k * M i c - M i k * M k c).tdiv d.toInt := by
    intro i hi hik c
    by_cases hc : c < 9
    · rw [hval i c hc, if_pos ⟨hi.1, hik, hi.2⟩]
    · have z1 : M i c = 0 := by rw [← hM]; unfold Mz; rw [if_neg hc]
      have z2 : M k c = 0 := by rw [← hM]; unfold Mz; rw [if_neg hc]
      rw [z1, z2]
      unfold Mz
      rw [if_neg hc]
      simp
  obtain ⟨hex, hB'⟩ := BI_step hB hkop hkK hp hMk' hM'
  have hS' := BS_step hop8 hA hB hB' hS hkop hkK hMk' hex
  have hdk : (ciF (coF ro o m k).1 o k d m (9 * k + k)).toInt = M k k := by
    have := congrFun hMk' k
    unfold Mz at this
    rw [if_pos (by omega)] at this
    exact this
  refine ⟨hex, hMk', hdk, ?_⟩
  show BI (Mz ro) (Mz (ciF (coF ro o m k).1 o k d m)) (k :: opL o k) (ciF (coF ro o m k).1 o k d m (9 * k + k)).toInt _ ∧ BS (Mz (ciF (coF ro o m k).1 o k d m)) (k :: opL o k) (ciF (coF ro o m k).1 o k d m (9 * k + k)).toInt _
  rw [hdk]
  exact ⟨hB', hS'⟩
theorem cls_run {ro : Nat → Int64} {o m : Nat} (hm : m ≤ 8) (hA : ∀ i, i < m ∧ o.testBit i = true → sm8 (Mz ro i) = 0) (h0 : BS (Mz ro) [] 1 (fun i => i < m ∧ o.testBit i = true)) (hf : ∃ f, f < 8 ∧ ¬ (f < m ∧ o.testBit f = true)) (hom : ∀ i, o.testBit i = true → i < m) : ∀ k, k ≤ m → BI (Mz ro) (Mz (coF ro o m k).1) (opL o k) (coF ro o m k).2.toInt (fun i => i < m ∧ o.testBit i = true) ∧ BS (Mz (coF ro o m k).1) (opL o k) (coF ro o m k).2.toInt (fun i => i < m ∧ o.testBit i = true) := by
  intro k
  induction k with
  | zero => intro _; exact ⟨BI_0 _ _, h0⟩
  | succ k ih =>
    intro hk
    obtain ⟨hB, hS⟩ := ih (by omega)
    by_cases hb : o.testBit k = true
    · exact (cls_one hm hA hf hom hk hb hB hS).2.2.2
    · rw [coF, opL, if_neg hb, if_neg hb]
      exact ⟨hB, hS⟩

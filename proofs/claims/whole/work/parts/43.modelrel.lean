/-! 4: the reference's elimination beside the class's -/
theorem mcI_val {rw : Nat → Int64} {i k : Nat} {piv by' d : Int64} (hik : i ≠ k) : ∀ (J : Nat), J ≤ 8 → ∀ (x y : Nat), y < 8 → mcI rw i k piv by' d J (8 * x + y) = if x = i ∧ y < J then (piv * rw (8 * i + y) - by' * rw (8 * k + y)) / d else rw (8 * x + y) := by
  intro J
  induction J with
  | zero => intro _ x y hy; rw [if_neg (by omega)]; rfl
  | succ J ih =>
    intro hJ x y hy
    have ih := ih (by omega)
    rw [mcI]
    unfold vp_updL
    by_cases hq : 8 * x + y = 8 * i + J
    · have hxi : x = i := by omega
      have hyJ : y = J := by omega
      subst hxi; subst hyJ
      rw [if_pos rfl, if_pos ⟨rfl, by omega⟩, ih x y hy, if_neg (by omega), ih k y hy, if_neg (by omega)]
    · rw [if_neg hq, ih x y hy]
      by_cases h1 : x = i ∧ y < J
      · rw [if_pos h1, if_pos ⟨h1.1, by omega⟩]
      · rw [if_neg h1, if_neg (fun z => h1 ⟨z.1, by have : ¬ (x = i ∧ y = J) := fun w => hq (by rw [w.1, w.2]); have := z.1; omega⟩)]
theorem mcO_val {rw su : Nat → Int64} {k : Nat} {piv d : Int64} {m : Nat} (hm : m ≤ 8) (hk : k < 8) : ∀ (n : Nat), (∀ (x y : Nat), y < 8 → (mcO rw su k piv d m n).1 (8 * x + y) = if x < n ∧ x ≠ k ∧ y < m then (piv * rw (8 * x + y) - rw (8 * x + k) * rw (8 * k + y)) / d else rw (8 * x + y)) ∧ (∀ x, (mcO rw su k piv d m n).2 x = if x < n ∧ x ≠ k then (piv * su x - rw (8 * x + k) * su k) / d else su x) := by
  intro n
  induction n with
  | zero => exact ⟨fun x y _ => by rw [if_neg (by omega)]; rfl, fun x => by rw [if_neg (by omega)]; rfl⟩
  | succ n ih =>
    obtain ⟨ih1, ih2⟩ := ih
    rw [mcO]
    by_cases hn : n = k
    · rw [if_pos hn]
      refine ⟨fun x y hy => ?_, fun x => ?_⟩
      · rw [ih1 x y hy]
        by_cases h1 : x < n ∧ x ≠ k ∧ y < m
        · rw [if_pos h1, if_pos ⟨by omega, h1.2⟩]
        · rw [if_neg h1, if_neg (fun z => h1 ⟨by have := z.1; have := z.2.1; omega, z.2⟩)]
      · rw [ih2 x]
        by_cases h1 : x < n ∧ x ≠ k
        · rw [if_pos h1, if_pos ⟨by omega, h1.2⟩]
        · rw [if_neg h1, if_neg (fun z => h1 ⟨by have := z.1; have := z.2; omega, z.2⟩)]
    · rw [if_neg hn]
      have hnk : (mcO rw su k piv d m n).1 (8 * n + k) = rw (8 * n + k) := by rw [ih1 n k hk, if_neg (by omega)]
      refine ⟨fun x y hy => ?_, fun x => ?_⟩
      · show mcI (mcO rw su k piv d m n).1 n k piv ((mcO rw su k piv d m n).1 (8 * n + k)) d m (8 * x + y) = _
        rw [mcI_val hn m hm x y hy, hnk]
        by_cases h1 : x = n ∧ y < m
        · obtain ⟨rfl, h2⟩ := h1
          rw [if_pos ⟨rfl, h2⟩, if_pos ⟨by omega, hn, h2⟩, ih1 x y hy, if_neg (by omega), ih1 k y hy, if_neg (fun z => z.2.1 rfl)]
        · rw [if_neg h1, ih1 x y hy]
          by_cases h2 : x < n ∧ x ≠ k ∧ y < m
          · rw [if_pos h2, if_pos ⟨by omega, h2.2⟩]
          · rw [if_neg h2, if_neg (fun z => h2 ⟨by have := z.1; have : ¬ (x = n ∧ y < m) := h1; have := z.2.2; omega, z.2⟩)]
      · show vp_updL (mcO rw su k piv d m n).2 n ((piv * (mcO rw su k piv d m n).2 n - (mcO rw su k piv d m n).1 (8 * n + k) * (mcO rw su k piv d m n).2 k) / d) x = _
        unfold vp_updL
        rw [hnk]
        by_cases h1 : x = n
        · subst h1
          rw [if_pos rfl, if_pos ⟨by omega, hn⟩, ih2 x, if_neg (by omega), ih2 k, if_neg (fun z => z.2 rfl)]
        · rw [if_neg h1, ih2 x]
          by_cases h2 : x < n ∧ x ≠ k
          · rw [if_pos h2, if_pos ⟨by omega, h2.2⟩]
          · rw [if_neg h2, if_neg (fun z => h2 ⟨by have := z.1; omega, z.2⟩)]
/-- the sum over the closed houses below k -/
def cs (o : Nat) (g : Nat → Int) : Nat → Int
  | 0 => 0
  | f + 1 => if o.testBit f = true then cs o g f else cs o g f + g f
theorem cs_bd {o : Nat} {g b : Nat → Int} (hg : ∀ f, f < 8 → ¬ o.testBit f = true → g f ≤ 0) (hb : ∀ f, 0 ≤ b f ∧ b f ≤ 99) : ∀ k, k ≤ 8 → 99 * cs o g k ≤ cs o (fun f => g f * b f) k ∧ cs o (fun f => g f * b f) k ≤ 0 ∧ cs o g k ≤ 0
  | 0, _ => by simp [cs]
  | k + 1, hk => by
    have ih := cs_bd hg hb k (by omega)
    unfold cs
    by_cases ho : o.testBit k = true
    · rw [if_pos ho, if_pos ho]; exact ih
    · rw [if_neg ho, if_neg ho]
      have h1 := hg k (by omega) ho
      have h2 := hb k
      have h3 : g k * 99 ≤ g k * b k := by
        have := mle (show 0 ≤ -(g k) by omega) h2.2
        grind
      have h4 := mpn h2.1 h1
      grind
theorem cs_le {o : Nat} {u : Nat → Int} {x : Nat} (hx : x < 8) (hox : o.testBit x = true) (hs : sm8 u = 0) (hn : ∀ j, j < 8 → j ≠ x → u j ≤ 0) : ∀ k, k ≤ 8 → -(u x) ≤ cs o u k := by
  have mono : ∀ d k, k + d = 8 → cs o u 8 ≤ cs o u k := by
    intro d
    induction d with
    | zero => intro k hk; have : k = 8 := by omega
              subst this; exact Int.le_refl _
    | succ d ih =>
      intro k hk
      have h1 := ih (k + 1) (by omega)
      have h2 : cs o u (k + 1) ≤ cs o u k := by
        show (if o.testBit k = true then cs o u k else cs o u k + u k) ≤ cs o u k
        split
        · exact Int.le_refl _
        · rename_i hk2
          have := hn k (by omega) (fun z => hk2 (z ▸ hox))
          omega
      omega
  have h8 : -(u x) ≤ cs o u 8 := by
    have term : ∀ f, f < 8 → (if f = x then 0 else u f) ≤ (if o.testBit f = true then 0 else u f) := by
      intro f hf
      by_cases h1 : f = x
      · subst h1; rw [if_pos rfl, if_pos hox]; exact Int.le_refl _
      · rw [if_neg h1]
        split
        · exact hn f hf h1
        · exact Int.le_refl _
    have e : cs o u 8 = (if o.testBit 0 = true then 0 else u 0) + (if o.testBit 1 = true then 0 else u 1) + (if o.testBit 2 = true then 0 else u 2) + (if o.testBit 3 = true then 0 else u 3) + (if o.testBit 4 = true then 0 else u 4) + (if o.testBit 5 = true then 0 else u 5) + (if o.testBit 6 = true then 0 else u 6) + (if o.testBit 7 = true then 0 else u 7) := by
      have s : ∀ f, cs o u (f + 1) = cs o u f + (if o.testBit f = true then 0 else u f) := by
        intro f
        show (if o.testBit f = true then cs o u f else cs o u f + u f) = _
        split <;> omega
      rw [s, s, s, s, s, s, s, s]
      show 0 + _ + _ + _ + _ + _ + _ + _ + _ = _
      omega
    have t0 := term 0 (by omega)
    have t1 := term 1 (by omega)
    have t2 := term 2 (by omega)
    have t3 := term 3 (by omega)
    have t4 := term 4 (by omega)
    have t5 := term 5 (by omega)
    have t6 := term 6 (by omega)
    have t7 := term 7 (by omega)
    unfold sm8 at hs
    rw [e]
    generalize (if o.testBit 0 = true then (0 : Int) else u 0) = v0 at t0 ⊢
    generalize (if o.testBit 1 = true then (0 : Int) else u 1) = v1 at t1 ⊢
    generalize (if o.testBit 2 = true then (0 : Int) else u 2) = v2 at t2 ⊢
    generalize (if o.testBit 3 = true then (0 : Int) else u 3) = v3 at t3 ⊢
    generalize (if o.testBit 4 = true then (0 : Int) else u 4) = v4 at t4 ⊢
    generalize (if o.testBit 5 = true then (0 : Int) else u 5) = v5 at t5 ⊢
    generalize (if o.testBit 6 = true then (0 : Int) else u 6) = v6 at t6 ⊢
    generalize (if o.testBit 7 = true then (0 : Int) else u 7) = v7 at t7 ⊢
    have ex : x = 0 ∨ x = 1 ∨ x = 2 ∨ x = 3 ∨ x = 4 ∨ x = 5 ∨ x = 6 ∨ x = 7 := by omega
    rcases ex with rfl | rfl | rfl | rfl | rfl | rfl | rfl | rfl <;> (simp at t0 t1 t2 t3 t4 t5 t6 t7; omega)
  intro k hk
  have := mono (8 - k) k (by omega)
  omega

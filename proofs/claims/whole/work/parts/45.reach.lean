/-! 6: both sides' reached set is the least one that holds the fixed and all that is beside -/
def Lst (fx : Nat → Prop) (ad : Nat → Nat → Prop) (m R : Nat) : Prop := (∀ i, R.testBit i = true → i < m) ∧ (∀ i, i < m → fx i → R.testBit i = true) ∧ (∀ i j, i < m → j < m → R.testBit i = true → ad i j → R.testBit j = true) ∧ (∀ T : Nat → Prop, (∀ i, i < m → fx i → T i) → (∀ i j, i < m → j < m → T i → ad i j → T j) → ∀ i, R.testBit i = true → T i)
theorem LS_one {fx : Nat → Prop} {ad : Nat → Nat → Prop} {m R R' : Nat} (h : Lst fx ad m R) (h' : Lst fx ad m R') : R = R' := by
  apply Nat.eq_of_testBit_eq
  intro i
  have a1 := h.2.2.2 (fun i => R'.testBit i = true) h'.2.1 h'.2.2.1 i
  have a2 := h'.2.2.2 (fun i => R.testBit i = true) h.2.1 h.2.2.1 i
  cases hx : R.testBit i <;> cases hy : R'.testBit i
  · rfl
  · exact absurd (a2 hy) (by rw [hx]; decide)
  · exact absurd (a1 hx) (by rw [hy]; decide)
  · rfl
theorem ct_lt {p q : Nat → Bool} : ∀ {n : Nat}, (∀ k, k < n → p k = true → q k = true) → (∃ k, k < n ∧ q k = true ∧ ¬ p k = true) → fb_ct p n + 1 ≤ fb_ct q n
  | 0, _, h => by obtain ⟨k, hk, _⟩ := h; omega
  | n + 1, hs, h => by
    rw [fb_ct_succ, fb_ct_succ]
    have hsub : fb_ct p n ≤ fb_ct q n := fb_ct_sub (fun k hk => hs k (by omega))
    by_cases hn : q n = true ∧ ¬ p n = true
    · rw [if_pos hn.1, if_neg hn.2]; omega
    · obtain ⟨k, hk, h1, h2⟩ := h
      have hkn : k < n := by
        rcases Nat.lt_or_ge k n with h | h
        · exact h
        · have : k = n := by omega
          subst this
          exact absurd ⟨h1, h2⟩ hn
      have ih := ct_lt (n := n) (fun k hk => hs k (by omega)) ⟨k, hkn, h1, h2⟩
      by_cases hp : p n = true
      · rw [if_pos hp, if_pos (hs n (by omega) hp)]; omega
      · rw [if_neg hp]; split <;> omega
def ctB (s m : Nat) : Nat := fb_ct (fun i => s.testBit i) m
theorem bI_bit (bes : Nat → Nat) (last j : Nat) : ∀ n, (bI bes last n).testBit j = true ↔ ∃ i, i < n ∧ last.testBit i = true ∧ (bes i).testBit j = true
  | 0 => by simp [bI]
  | n + 1 => by
    have ih := bI_bit bes last j n
    unfold bI
    by_cases hn : last.testBit n = true
    · rw [if_pos hn, Nat.testBit_or, Bool.or_eq_true, ih]
      constructor
      · rintro (⟨i, h1, h2⟩ | h)
        · exact ⟨i, by omega, h2⟩
        · exact ⟨n, by omega, hn, h⟩
      · rintro ⟨i, h1, h2, h3⟩
        rcases Nat.lt_or_ge i n with h | h
        · exact Or.inl ⟨i, h, h2, h3⟩
        · have : i = n := by omega
          subst this
          exact Or.inr h3
    · rw [if_neg hn, ih]
      constructor
      · rintro ⟨i, h1, h2⟩; exact ⟨i, by omega, h2⟩
      · rintro ⟨i, h1, h2, h3⟩
        refine ⟨i, ?_, h2, h3⟩
        rcases Nat.lt_or_ge i n with h | h
        · exact h
        · have : i = n := by omega
          subst this
          exact absurd h2 hn
theorem nz_bit {x m : Nat} (hx : ∀ i, x.testBit i = true → i < m) (h : x ≠ 0) : ∃ i, i < m ∧ x.testBit i = true := by
  obtain ⟨i, hi⟩ := Nat.exists_testBit_of_ne_zero h
  exact ⟨i, hx i hi, hi⟩
theorem rS_LS {fx : Nat → Prop} {ad : Nat → Nat → Prop} {m : Nat} {bes : Nat → Nat} (hbes : ∀ i, i < m → ∀ j, (bes i).testBit j = true ↔ j < m ∧ ad i j) : ∀ (d s set last : Nat), s + d = m → (∀ i, set.testBit i = true → i < m) → (∀ i, i < m → fx i → set.testBit i = true) → (∀ i, last.testBit i = true → set.testBit i = true) → (∀ i j, i < m → j < m → set.testBit i = true → ¬ last.testBit i = true → ad i j → set.testBit j = true) → (∀ T : Nat → Prop, (∀ i, i < m → fx i → T i) → (∀ i j, i < m → j < m → T i → ad i j → T j) → ∀ i, set.testBit i = true → T i) → (last = 0 ∨ s + 1 ≤ ctB set m) → Lst fx ad m (rS bes m d set last) := by
  intro d
  induction d with
  | zero =>
    intro s set last hs h1 h2 h3 h4 h5 h6
    have hl : last = 0 := by
      rcases h6 with h | h
      · exact h
      · have := fb_ct_le (fun i => set.testBit i) m
        unfold ctB at h
        omega
    exact ⟨h1, h2, fun i j hi hj hb => h4 i j hi hj hb (by rw [hl]; simp), h5⟩
  | succ d ih =>
    intro s set last hs h1 h2 h3 h4 h5 h6
    unfold rS
    by_cases hl : last = 0
    · rw [if_pos hl]
      exact ⟨h1, h2, fun i j hi hj hb => h4 i j hi hj hb (by rw [hl]; simp), h5⟩
    · rw [if_neg hl]
      have hnew : ∀ j, (andn (bI bes last m) set).testBit j = true ↔ (∃ i, i < m ∧ last.testBit i = true ∧ j < m ∧ ad i j) ∧ ¬ set.testBit j = true := by
        intro j
        rw [andn_bit, Bool.and_eq_true, bI_bit]
        constructor
        · rintro ⟨⟨i, hi, hli, hb⟩, hn⟩
          exact ⟨⟨i, hi, hli, (hbes i hi j).mp hb⟩, by simpa using hn⟩
        · rintro ⟨⟨i, hi, hli, hb⟩, hn⟩
          exact ⟨⟨i, hi, hli, (hbes i hi j).mpr hb⟩, by simpa using hn⟩
      have hor : ∀ j, (set ||| andn (bI bes last m) set).testBit j = true ↔ set.testBit j = true ∨ (andn (bI bes last m) set).testBit j = true := by
        intro j; rw [Nat.testBit_or, Bool.or_eq_true]
      refine ih (s + 1) _ _ (by omega) ?_ ?_ ?_ ?_ ?_ ?_
      · intro i hi
        rcases (hor i).mp hi with h | h
        · exact h1 i h
        · obtain ⟨⟨_, _, _, h, _⟩, _⟩ := (hnew i).mp h
          exact h
      · intro i hi hf; exact (hor i).mpr (Or.inl (h2 i hi hf))
      · intro i hi; exact (hor i).mpr (Or.inr hi)
      · intro i j hi hj hb hnl hij
        rcases (hor i).mp hb with h | h
        · by_cases hli : last.testBit i = true
          · by_cases hsj : set.testBit j = true
            · exact (hor j).mpr (Or.inl hsj)
            · exact (hor j).mpr (Or.inr ((hnew j).mpr ⟨⟨i, hi, hli, hj, hij⟩, hsj⟩))
          · exact (hor j).mpr (Or.inl (h4 i j hi hj h hli hij))
        · exact absurd h hnl
      · intro T hT1 hT2 i hi
        rcases (hor i).mp hi with h | h
        · exact h5 T hT1 hT2 i h
        · obtain ⟨⟨k, hk, hlk, him, hki⟩, _⟩ := (hnew i).mp h
          exact hT2 k i hk him (h5 T hT1 hT2 k (h3 k hlk)) hki
      · by_cases hz : andn (bI bes last m) set = 0
        · exact Or.inl hz
        · right
          have h6' : s + 1 ≤ ctB set m := h6.resolve_left hl
          obtain ⟨i, hi, hb⟩ := nz_bit (m := m) (fun i hi => by obtain ⟨⟨_, _, _, h, _⟩, _⟩ := (hnew i).mp hi; exact h) hz
          have := ct_lt (p := fun i => set.testBit i) (q := fun i => (set ||| andn (bI bes last m) set).testBit i) (n := m) (fun k _ hk => (hor k).mpr (Or.inl hk)) ⟨i, hi, (hor i).mpr (Or.inr hb), ((hnew i).mp hb).2⟩
          unfold ctB at *
          omega
theorem rcF_LS (ki sh : Nat → Int32) (m : Nat) : Lst (fun i => ki i = 1 ∨ ki i = 3) (fun i j => ¬ sh (8 * i + j) ≤ 0) m (rcF ki sh m) := by
  have hfx : ∀ i, (fxN ki m).testBit i = true ↔ i < m ∧ (ki i = 1 ∨ ki i = 3) := by
    intro i; unfold fxN; rw [enc_bit]; simp [fxB]
  unfold rcF
  refine rS_LS (fun i hi j => ?_) m 0 _ _ (by omega) (fun i hi => ((hfx i).mp hi).1) (fun i hi hf => (hfx i).mpr ⟨hi, hf⟩) (fun i hi => hi) (fun i j _ _ h1 h2 => absurd h1 h2) (fun T hT1 _ i hi => hT1 i ((hfx i).mp hi).1 ((hfx i).mp hi).2) ?_
  · unfold bsF; rw [enc_bit]; simp [adB]
  · by_cases hz : fxN ki m = 0
    · exact Or.inl hz
    · right
      obtain ⟨i, hi, hb⟩ := nz_bit (m := m) (fun i hi => ((hfx i).mp hi).1) hz
      have := ct_lt (p := fun _ => false) (q := fun i => (fxN ki m).testBit i) (n := m) (fun k _ hk => absurd hk (by decide)) ⟨i, hi, hb, by decide⟩
      unfold ctB
      omega
-- the reference's rounds
theorem mr1_bit (sh : Nat → Int32) (a s : Nat) : ∀ o j, (s.testBit j = true → (mr1 sh a s o).testBit j = true) ∧ ((mr1 sh a s o).testBit j = true → s.testBit j = true ∨ (j = a ∧ ∃ k, k < o ∧ (mr1 sh a s o).testBit k = true ∧ ¬ sh (8 * a + k) ≤ 0)) := by
  intro o
  induction o with
  | zero => intro j; exact ⟨fun h => h, fun h => Or.inl h⟩
  | succ o ih =>
    intro j
    have mono : ∀ k, (mr1 sh a s o).testBit k = true → (mr1 sh a s (o + 1)).testBit k = true := by
      intro k hk
      rw [mr1]
      split
      · rw [Nat.testBit_or, hk]; rfl
      · exact hk
    refine ⟨fun h => mono j ((ih j).1 h), fun h => ?_⟩
    by_cases hq : (mr1 sh a s o).testBit o = true ∧ ¬ sh (8 * a + o) ≤ 0
    · by_cases hj : j = a
      · exact Or.inr ⟨hj, o, by omega, mono o hq.1, hq.2⟩
      · have h2 : (mr1 sh a s o).testBit j = true := by
          rw [mr1, if_pos hq, fb_bit_set] at h
          simpa [hj] using h
        rcases (ih j).2 h2 with h3 | ⟨h3, _⟩
        · exact Or.inl h3
        · exact absurd h3 hj
    · rw [mr1, if_neg hq] at h
      rcases (ih j).2 h with h3 | ⟨h3, k, hk, h4, h5⟩
      · exact Or.inl h3
      · exact Or.inr ⟨h3, k, by omega, mono k h4, h5⟩
theorem mr1_add (sh : Nat → Int32) (a s : Nat) {k : Nat} (hk : s.testBit k = true) (hs : ¬ sh (8 * a + k) ≤ 0) : ∀ o, k < o → (mr1 sh a s o).testBit a = true := by
  intro o
  induction o with
  | zero => intro h; omega
  | succ o ih =>
    intro h
    rw [mr1]
    by_cases hko : k = o
    · subst hko
      rw [if_pos ⟨(mr1_bit sh a s k k).1 hk, hs⟩, fb_bit_set]
      simp
    · have := ih (by omega)
      split
      · rw [Nat.testBit_or, this]; rfl
      · exact this
theorem mr2_bit {fx : Nat → Prop} {sh : Nat → Int32} {m : Nat} (s : Nat) (T : Nat → Prop) (hT : ∀ i j, i < m → j < m → T i → ¬ sh (8 * j + i) ≤ 0 → T j) (hs : ∀ i, s.testBit i = true → T i) : ∀ a, a ≤ m → (∀ j, s.testBit j = true → (mr2 sh m s a).testBit j = true) ∧ (∀ j, (mr2 sh m s a).testBit j = true → T j) := by
  intro a
  induction a with
  | zero => intro _; exact ⟨fun j h => h, hs⟩
  | succ a ih =>
    intro ha
    obtain ⟨i1, i2⟩ := ih (by omega)
    rw [mr2]
    refine ⟨fun j h => (mr1_bit sh a _ m j).1 (i1 j h), ?_⟩
    have key : ∀ o, o ≤ m → ∀ j, (mr1 sh a (mr2 sh m s a) o).testBit j = true → T j := by
      intro o
      induction o with
      | zero => intro _ j h; exact i2 j h
      | succ o ih2 =>
        intro ho j h
        have ih2 := ih2 (by omega)
        rw [mr1] at h
        by_cases hq : (mr1 sh a (mr2 sh m s a) o).testBit o = true ∧ ¬ sh (8 * a + o) ≤ 0
        · rw [if_pos hq, fb_bit_set] at h
          by_cases hj : j = a
          · subst hj
            exact hT o j (by omega) (by omega) (ih2 o hq.1) hq.2
          · exact ih2 j (by simpa [hj] using h)
        · rw [if_neg hq] at h
          exact ih2 j h
    exact key m (Nat.le_refl m)
theorem mr2_add {sh : Nat → Int32} {m s : Nat} {k a : Nat} (hk : k < m) (ha : a < m) (hb : s.testBit k = true) (hs : ¬ sh (8 * a + k) ≤ 0) : (mr2 sh m s m).testBit a = true := by
  have mono : ∀ d x, x + d = m → ∀ j, (mr2 sh m s x).testBit j = true → (mr2 sh m s m).testBit j = true := by
    intro d
    induction d with
    | zero => intro x hx j h; have : x = m := by omega
              subst this; exact h
    | succ d ih =>
      intro x hx j h
      exact ih (x + 1) (by omega) j (by rw [mr2]; exact (mr1_bit sh x _ m j).1 h)
  have h0 : ∀ x, x ≤ m → (mr2 sh m s x).testBit k = true := by
    intro x
    induction x with
    | zero => intro _; exact hb
    | succ x ih => intro hx; rw [mr2]; exact (mr1_bit sh x _ m k).1 (ih (by omega))
  refine mono (m - (a + 1)) (a + 1) (by omega) a ?_
  rw [mr2]
  exact mr1_add sh a _ (h0 a (by omega)) hs m hk
theorem rcM_LS (ki sh : Nat → Int32) (b m : Nat) : Lst (fun i => ki i = 1 ∨ ki i = 3 ∨ b.testBit i = true) (fun i j => ¬ sh (8 * j + i) ≤ 0) m (rcM ki sh b m) := by
  have hfx : ∀ i, (enc (fxM ki b) m).testBit i = true ↔ i < m ∧ (ki i = 1 ∨ ki i = 3 ∨ b.testBit i = true) := by
    intro i; rw [enc_bit]; simp [fxM]
  unfold rcM
  generalize enc (fxM ki b) m = s at hfx
  have sound : ∀ T : Nat → Prop, (∀ i, i < m → (ki i = 1 ∨ ki i = 3 ∨ b.testBit i = true) → T i) → (∀ i j, i < m → j < m → T i → ¬ sh (8 * j + i) ≤ 0 → T j) → ∀ r i, (mr3 sh m s r).testBit i = true → T i := by
    intro T h1 h2 r
    induction r with
    | zero => intro i hi; exact h1 i ((hfx i).mp hi).1 ((hfx i).mp hi).2
    | succ r ih => exact (mr2_bit (fx := fun _ => True) _ T h2 ih m (Nat.le_refl m)).2
  have low : ∀ r i, (mr3 sh m s r).testBit i = true → i < m := fun r i hi => sound (fun i => i < m) (fun i h _ => h) (fun i j _ hj _ _ => hj) r i hi
  have up : ∀ r i, (mr3 sh m s r).testBit i = true → (mr3 sh m s (r + 1)).testBit i = true := fun r i hi => (mr2_bit (fx := fun _ => True) (sh := sh) (m := m) (mr3 sh m s r) (fun _ => True) (fun _ _ _ _ _ _ => trivial) (fun _ _ => trivial) m (Nat.le_refl m)).1 i hi
  have base : ∀ r i, s.testBit i = true → (mr3 sh m s r).testBit i = true := by
    intro r
    induction r with
    | zero => intro i hi; exact hi
    | succ r ih => intro i hi; exact up r i (ih i hi)
  have closed : ∀ r, (∀ i j, i < m → j < m → (mr3 sh m s r).testBit i = true → ¬ sh (8 * j + i) ≤ 0 → (mr3 sh m s r).testBit j = true) ∨ r + 1 ≤ ctB (mr3 sh m s r) m := by
    intro r
    induction r with
    | zero =>
      by_cases hc : ∀ i j, i < m → j < m → (mr3 sh m s 0).testBit i = true → ¬ sh (8 * j + i) ≤ 0 → (mr3 sh m s 0).testBit j = true
      · exact Or.inl hc
      · right
        have : ∃ i, i < m ∧ (mr3 sh m s 0).testBit i = true := Classical.byContradiction fun z => hc (fun i j hi _ hb _ => absurd ⟨i, hi, hb⟩ z)
        obtain ⟨i, hi, hb⟩ := this
        have := ct_lt (p := fun _ => false) (q := fun i => (mr3 sh m s 0).testBit i) (n := m) (fun k _ hk => absurd hk (by decide)) ⟨i, hi, hb, by decide⟩
        unfold ctB
        omega
    | succ r ih =>
      by_cases hc : ∀ i j, i < m → j < m → (mr3 sh m s r).testBit i = true → ¬ sh (8 * j + i) ≤ 0 → (mr3 sh m s r).testBit j = true
      · left
        have same : ∀ i, (mr3 sh m s (r + 1)).testBit i = true → (mr3 sh m s r).testBit i = true := (mr2_bit (fx := fun _ => True) (sh := sh) (m := m) (mr3 sh m s r) (fun i => (mr3 sh m s r).testBit i = true) hc (fun _ h => h) m (Nat.le_refl m)).2
        intro i j hi hj hb hs
        exact up r j (hc i j hi hj (same i hb) hs)
      · right
        have h6 := ih.resolve_left hc
        have : ∃ j, j < m ∧ (mr3 sh m s (r + 1)).testBit j = true ∧ ¬ (mr3 sh m s r).testBit j = true := Classical.byContradiction fun z => hc (fun i j hi hj hb hs => Classical.byContradiction fun y => z ⟨j, hj, mr2_add hi hj hb hs, y⟩)
        have := ct_lt (p := fun i => (mr3 sh m s r).testBit i) (q := fun i => (mr3 sh m s (r + 1)).testBit i) (n := m) (fun k _ hk => up r k hk) this
        unfold ctB at *
        omega
  refine ⟨low m, fun i hi hf => base m i ((hfx i).mpr ⟨hi, hf⟩), ?_, fun T h1 h2 => sound T h1 h2 m⟩
  rcases closed m with h | h
  · exact h
  · have := fb_ct_le (fun i => (mr3 sh m s m).testBit i) m
    unfold ctB at h
    omega

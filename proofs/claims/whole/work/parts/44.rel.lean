/-! 5: the reference's rows, sums and what is below, at every step, out of the class's -/
theorem pow7 : ∀ k, k ≤ 7 → (14 : Int) ^ k ≤ 105413504 := by decide
theorem pow8 : ∀ k, k ≤ 7 → (28 : Int) ^ k ≤ 13492928512 := by decide
/-- all that is bounded at a step -/
theorem st_bd {A M : Nat → Nat → Int} {o k m : Nat} {d : Int} (hm : m ≤ 8) (hk : k ≤ m) (hf : ∃ f, f < 8 ∧ ¬ (f < m ∧ o.testBit f = true)) (hom : ∀ i, o.testBit i = true → i < m) (hB : BI A M (opL o k) d (fun i => i < m ∧ o.testBit i = true)) (hS : BS M (opL o k) d (fun i => i < m ∧ o.testBit i = true)) :
    0 < d ∧ d ≤ 105413504 ∧ (∀ i, i < m ∧ o.testBit i = true → 0 ≤ M i i ∧ M i i ≤ 105413504 ∧ (∀ c, c < 8 → c ≠ i → -(M i i) ≤ M i c ∧ M i c ≤ 0) ∧ 0 ≤ M i 8 ∧ M i 8 ≤ 13492928512) := by
  obtain ⟨f, hf8, hfo⟩ := hf
  obtain ⟨l1, l2⟩ := opL_len o k
  have hlen7 : (opL o k).length ≤ 7 := by
    rcases Nat.lt_or_ge f k with h | h
    · have := l2 f h (fun z => hfo ⟨hom f z, z⟩)
      omega
    · omega
  have hd := hB.1
  have hdb : d ≤ 105413504 := Int.le_trans hS.2.2.2.2.1 (pow7 _ hlen7)
  refine ⟨hd, hdb, fun i hi => ?_⟩
  have hop8 : ∀ i, (i < m ∧ o.testBit i = true) → i < 8 := fun i hi => by omega
  have hrow := row_own (hop8 i hi) (hS.2.1 i hi) (hS.1 i hi)
  have hnn := row_nn (hop8 i hi) (hS.2.1 i hi) (hS.1 i hi)
  obtain ⟨s31, s32, s33⟩ := hS.2.2.1 i hi
  have hlow : i ∉ opL o k → (opL o k).length ≤ 6 := by
    intro hi2
    have hik : k ≤ i := by
      rcases Nat.lt_or_ge i k with h | h
      · exact absurd ((opL_mem o k i).mpr ⟨h, hi.2⟩) hi2
      · exact h
    rcases Nat.lt_or_ge f k with h | h
    · have := l2 f h (fun z => hfo ⟨hom f z, z⟩)
      omega
    · have : f ≠ i := fun z => hfo (z ▸ hi)
      omega
  refine ⟨hnn, ?_, fun c hc hci => ⟨by have := hrow c hc hci; omega, hS.1 i hi c hc hci⟩, s31, ?_⟩
  · by_cases hiK : i ∈ opL o k
    · rw [(hB.2.2.2.1 i hiK).1]; exact hdb
    · have h1 := hS.2.2.2.1 i hi hiK
      have h2 := Int.le_trans hS.2.2.2.2.1 (pow14 _ (hlow hiK))
      omega
  · by_cases hiK : i ∈ opL o k
    · exact Int.le_trans (s33 hiK) (pow8 _ hlen7)
    · exact Int.le_trans s32 (Int.le_trans (pow28 _ (hlow hiK)) (by decide))
theorem tdiv_ex {d q x : Int} (hd : 0 < d) (h : x = d * q) : x.tdiv d = q := by
  subst h
  exact Int.mul_tdiv_cancel_left q (by omega)
theorem cs_cong {o : Nat} {g g' : Nat → Int} : ∀ k, (∀ f, f < k → ¬ o.testBit f = true → g f = g' f) → cs o g k = cs o g' k
  | 0, _ => rfl
  | k + 1, h => by
    have ih := cs_cong k (fun f hf => h f (by omega))
    unfold cs
    by_cases ho : o.testBit k = true
    · rw [if_pos ho, if_pos ho, ih]
    · rw [if_neg ho, if_neg ho, ih, h k (by omega) ho]
theorem cs_lin {o : Nat} (a b : Int) (g g' : Nat → Int) : ∀ k, cs o (fun f => a * g f + b * g' f) k = a * cs o g k + b * cs o g' k
  | 0 => by simp [cs]
  | k + 1 => by
    have ih := cs_lin (o := o) a b g g' k
    unfold cs
    by_cases ho : o.testBit k = true
    · rw [if_pos ho, if_pos ho, if_pos ho, ih]
    · rw [if_neg ho, if_neg ho, if_neg ho, ih]; grind
def MI (ro rw su : Nat → Int64) (o m : Nat) (e : Int) (b : Nat → Int) (k : Nat) : Prop :=
  (meO rw su m k).2.toInt = (coF ro o m k).2.toInt ∧
  (∀ x, x < m → ¬ o.testBit x = true → (∀ y, y < m → ((meO rw su m k).1.1 (8 * x + y)).toInt = if x = y then (coF ro o m k).2.toInt else 0) ∧ ((meO rw su m k).1.2 x).toInt = (coF ro o m k).2.toInt * b x) ∧
  (∀ x, x < m → o.testBit x = true → (∀ y, y < m → ((meO rw su m k).1.1 (8 * x + y)).toInt = if y < k ∧ ¬ o.testBit y = true then 0 else Mz (coF ro o m k).1 x y) ∧ ((meO rw su m k).1.2 x).toInt = e * Mz (coF ro o m k).1 x 8 - cs o (fun f => Mz (coF ro o m k).1 x f * b f) k)
theorem MI_step {ro rw su : Nat → Int64} {o m : Nat} {e : Int} {b : Nat → Int} {k : Nat} (hm : m ≤ 8) (hA : ∀ i, i < m ∧ o.testBit i = true → sm8 (Mz ro i) = 0) (hf : ∃ f, f < 8 ∧ ¬ (f < m ∧ o.testBit f = true)) (hom : ∀ i, o.testBit i = true → i < m) (hb : ∀ f, 0 ≤ b f ∧ b f ≤ 99) (he : e = 0 ∨ (e = 1 ∧ ∀ f, b f = 0)) (hk : k < m)
    (hB : BI (Mz ro) (Mz (coF ro o m k).1) (opL o k) (coF ro o m k).2.toInt (fun i => i < m ∧ o.testBit i = true)) (hS : BS (Mz (coF ro o m k).1) (opL o k) (coF ro o m k).2.toInt (fun i => i < m ∧ o.testBit i = true)) (h : MI ro rw su o m e b k) : MI ro rw su o m e b (k + 1) := by
  obtain ⟨hd, hdX, hbd⟩ := st_bd hm (by omega) hf hom hB hS
  obtain ⟨e1, e2, e3⟩ := h
  have ew : meO rw su m (k + 1) = (mcO (meO rw su m k).1.1 (meO rw su m k).1.2 k ((meO rw su m k).1.1 (9 * k)) (meO rw su m k).2 m m, (mcO (meO rw su m k).1.1 (meO rw su m k).1.2 k ((meO rw su m k).1.1 (9 * k)) (meO rw su m k).2 m m).1 (9 * k)) := by rw [meO]
  generalize hR : (meO rw su m k).1.1 = R at *
  generalize hU : (meO rw su m k).1.2 = U at *
  generalize hD : (meO rw su m k).2 = dd at *
  generalize hdc : (coF ro o m k).2.toInt = d at *
  generalize hM : Mz (coF ro o m k).1 = M at *
  have h9 : 9 * k = 8 * k + k := by omega
  rw [h9] at ew
  obtain ⟨v1, v2⟩ := mcO_val (rw := R) (su := U) (k := k) (piv := R (8 * k + k)) (d := dd) hm (show k < 8 by omega) m
  -- bounds of the reference's rows and sums
  have bR : ∀ x y, x < m → y < m → -105413504 ≤ (R (8 * x + y)).toInt ∧ (R (8 * x + y)).toInt ≤ 105413504 := by
    intro x y hx hy
    by_cases hox : o.testBit x = true
    · rw [(e3 x hx hox).1 y hy]
      split
      · omega
      · obtain ⟨q1, q2, q3, -⟩ := hbd x ⟨hx, hox⟩
        by_cases hyx : y = x
        · subst hyx; omega
        · have := q3 y (by omega) hyx; omega
    · rw [(e2 x hx hox).1 y hy]
      split <;> omega
  have bU : ∀ x, x < m → -13492928512 ≤ (U x).toInt ∧ (U x).toInt ≤ 13492928512 := by
    intro x hx
    by_cases hox : o.testBit x = true
    · rw [(e3 x hx hox).2]
      obtain ⟨q1, q2, q3, q4, q5⟩ := hbd x ⟨hx, hox⟩
      rcases he with rfl | ⟨rfl, hb0⟩
      · have c1 := cs_bd (o := o) (g := M x) (b := b) (fun f hf2 hfo => (q3 f hf2 (fun z => hfo (z ▸ hox))).2) hb k (by omega)
        have c2 := cs_le (o := o) (u := M x) (x := x) (by omega) hox (hS.2.1 x ⟨hx, hox⟩) (fun j hj hjx => (q3 j hj hjx).2) k (by omega)
        omega
      · have c1 : cs o (fun f => M x f * b f) k = 0 := by
          rw [cs_cong (g' := fun f => 0 * M x f + 0 * M x f) k (fun f _ _ => by rw [hb0]; simp), cs_lin]
          simp
        rw [c1]
        omega
    · rw [(e2 x hx hox).2]
      have := mul_bd (a := d) (b := b x) (X := 105413504) (Y := 99) ⟨by omega, by omega⟩ ⟨by have := hb x; omega, by have := hb x; omega⟩
      omega
  have hdd : 0 < dd.toInt := by rw [e1]; exact hd
  have nR : ∀ x y, x < m → y < m → x ≠ k → ((R (8 * k + k) * R (8 * x + y) - R (8 * x + k) * R (8 * k + y)) / dd).toInt = ((R (8 * k + k)).toInt * (R (8 * x + y)).toInt - (R (8 * x + k)).toInt * (R (8 * k + y)).toInt).tdiv d := by
    intro x y hx hy hxk
    rw [← e1]
    exact t64 (B := 105413504 * 105413504) (by decide) (mul_bd (bR k k hk hk) (bR x y hx hy)) (mul_bd (bR x k hx hk) (bR k y hk hy)) hdd
  have nU : ∀ x, x < m → x ≠ k → ((R (8 * k + k) * U x - R (8 * x + k) * U k) / dd).toInt = ((R (8 * k + k)).toInt * (U x).toInt - (R (8 * x + k)).toInt * (U k).toInt).tdiv d := by
    intro x hx hxk
    rw [← e1]
    exact t64 (B := 105413504 * 13492928512) (by decide) (mul_bd (bR k k hk hk) (bU x hx)) (mul_bd (bR x k hx hk) (bU k hk)) hdd
  have w1 : ∀ x y, x < m → y < m → ((meO rw su m (k + 1)).1.1 (8 * x + y)).toInt = if x = k then (R (8 * x + y)).toInt else ((R (8 * k + k)).toInt * (R (8 * x + y)).toInt - (R (8 * x + k)).toInt * (R (8 * k + y)).toInt).tdiv d := by
    intro x y hx hy
    rw [ew]
    show ((mcO R U k (R (8 * k + k)) dd m m).1 (8 * x + y)).toInt = _
    rw [v1 x y (by omega)]
    by_cases hxk : x = k
    · rw [if_neg (fun z => z.2.1 hxk), if_pos hxk]
    · rw [if_pos ⟨hx, hxk, hy⟩, if_neg hxk, nR x y hx hy hxk]
  have w2 : ∀ x, x < m → ((meO rw su m (k + 1)).1.2 x).toInt = if x = k then (U x).toInt else ((R (8 * k + k)).toInt * (U x).toInt - (R (8 * x + k)).toInt * (U k).toInt).tdiv d := by
    intro x hx
    rw [ew]
    show ((mcO R U k (R (8 * k + k)) dd m m).2 x).toInt = _
    rw [v2 x]
    by_cases hxk : x = k
    · rw [if_neg (fun z => z.2 hxk), if_pos hxk]
    · rw [if_pos ⟨hx, hxk⟩, if_neg hxk, nU x hx hxk]
  have w3 : (meO rw su m (k + 1)).2.toInt = (R (8 * k + k)).toInt := by
    rw [ew]
    show ((mcO R U k (R (8 * k + k)) dd m m).1 (8 * k + k)).toInt = _
    rw [v1 k k (by omega), if_neg (fun z => z.2.1 rfl)]
  by_cases hok : o.testBit k = true
  · -- an open house
    have hone := cls_one hm hA hf hom (by omega) hok (by rw [hM, hdc]; exact hB) (by rw [hM, hdc]; exact hS)
    rw [hM, hdc] at hone
    obtain ⟨hex, hMk', hdk, -⟩ := hone
    have rkk : (R (8 * k + k)).toInt = M k k := by rw [(e3 k hk hok).1 k hk, if_neg (fun z => z.2 hok)]
    refine ⟨by rw [w3, rkk, hdk], ?_, ?_⟩
    · intro x hx hox
      have hxk : x ≠ k := fun z => hox (z ▸ hok)
      have rxk : (R (8 * x + k)).toInt = 0 := by rw [(e2 x hx hox).1 k hk, if_neg hxk]
      refine ⟨fun y hy => ?_, ?_⟩
      · rw [w1 x y hx hy, if_neg hxk, rkk, rxk, (e2 x hx hox).1 y hy, hdk]
        by_cases hxy : x = y
        · rw [if_pos hxy, if_pos hxy]
          exact tdiv_ex hd (by grind)
        · rw [if_neg hxy, if_neg hxy]
          exact tdiv_ex hd (by grind)
      · rw [w2 x hx, if_neg hxk, rkk, rxk, (e2 x hx hox).2, hdk]
        exact tdiv_ex hd (by grind)
    · intro x hx hox
      by_cases hxk : x = k
      · subst hxk
        refine ⟨fun y hy => ?_, ?_⟩
        · rw [w1 x y hx hy, if_pos rfl, (e3 x hx hox).1 y hy, hMk']
          by_cases hq : y < x ∧ ¬ o.testBit y = true
          · rw [if_pos hq, if_pos ⟨by omega, hq.2⟩]
          · rw [if_neg hq, if_neg (fun z => hq ⟨by have : y ≠ x := fun w => z.2 (w ▸ hox); have := z.1; omega, z.2⟩)]
        · rw [w2 x hx, if_pos rfl, (e3 x hx hox).2, hMk']
          show _ = e * M x 8 - (if o.testBit x = true then cs o (fun f => M x f * b f) x else _)
          rw [if_pos hox]
      · have hexx := hex x ⟨hx, hox⟩ hxk
        have rxk : (R (8 * x + k)).toInt = M x k := by rw [(e3 x hx hox).1 k hk, if_neg (fun z => z.2 hok)]
        refine ⟨fun y hy => ?_, ?_⟩
        · rw [w1 x y hx hy, if_neg hxk, rkk, rxk, (e3 x hx hox).1 y hy, (e3 k hk hok).1 y hy]
          by_cases hq : y < k ∧ ¬ o.testBit y = true
          · rw [if_pos hq, if_pos hq, if_pos ⟨by omega, hq.2⟩]
            exact tdiv_ex hd (by grind)
          · rw [if_neg hq, if_neg hq, if_neg (fun z => hq ⟨by have : y ≠ k := fun w => z.2 (w ▸ hok); have := z.1; omega, z.2⟩)]
            exact tdiv_ex hd (hexx y).symm
        · rw [w2 x hx, if_neg hxk, rkk, rxk, (e3 x hx hox).2, (e3 k hk hok).2]
          refine tdiv_ex hd ?_
          show _ = d * (e * Mz (coF ro o m (k + 1)).1 x 8 - (if o.testBit k = true then cs o (fun f => Mz (coF ro o m (k + 1)).1 x f * b f) k else _))
          rw [if_pos hok]
          have c1 : d * cs o (fun f => Mz (coF ro o m (k + 1)).1 x f * b f) k = M k k * cs o (fun f => M x f * b f) k + (-(M x k)) * cs o (fun f => M k f * b f) k := by
            rw [← cs_lin]
            have c2 := cs_lin (o := o) d 0 (fun f => Mz (coF ro o m (k + 1)).1 x f * b f) (fun _ => 0) k
            have c3 : d * cs o (fun f => Mz (coF ro o m (k + 1)).1 x f * b f) k = cs o (fun f => d * (Mz (coF ro o m (k + 1)).1 x f * b f) + 0 * 0) k := by rw [c2]; simp
            rw [c3]
            exact cs_cong k (fun f _ _ => by have := hexx f; grind)
          have c4 := hexx 8
          grind
  · -- a closed house
    have ec : coF ro o m (k + 1) = coF ro o m k := by rw [coF, if_neg hok]
    have rkk : (R (8 * k + k)).toInt = d := by rw [(e2 k hk hok).1 k hk, if_pos rfl]
    have rky : ∀ y, y < m → y ≠ k → (R (8 * k + y)).toInt = 0 := fun y hy hyk => by rw [(e2 k hk hok).1 y hy, if_neg (fun z => hyk z.symm)]
    unfold MI
    rw [ec, hM, hdc]
    refine ⟨by rw [w3, rkk], ?_, ?_⟩
    · intro x hx hox
      by_cases hxk : x = k
      · subst hxk
        refine ⟨fun y hy => ?_, ?_⟩
        · rw [w1 x y hx hy, if_pos rfl, (e2 x hx hox).1 y hy]
        · rw [w2 x hx, if_pos rfl, (e2 x hx hox).2]
      · have rxk : (R (8 * x + k)).toInt = 0 := by rw [(e2 x hx hox).1 k hk, if_neg hxk]
        refine ⟨fun y hy => ?_, ?_⟩
        · rw [w1 x y hx hy, if_neg hxk, rkk, rxk, (e2 x hx hox).1 y hy]
          exact tdiv_ex hd (by grind)
        · rw [w2 x hx, if_neg hxk, rkk, rxk, (e2 x hx hox).2]
          exact tdiv_ex hd (by grind)
    · intro x hx hox
      have hxk : x ≠ k := fun z => hok (z ▸ hox)
      have rxk : (R (8 * x + k)).toInt = M x k := by rw [(e3 x hx hox).1 k hk, if_neg (fun z => by omega)]
      refine ⟨fun y hy => ?_, ?_⟩
      · rw [w1 x y hx hy, if_neg hxk, rkk, rxk]
        by_cases hyk : y = k
        · subst hyk
          rw [rxk, rkk, if_pos ⟨by omega, hok⟩]
          exact tdiv_ex hd (by grind)
        · rw [rky y hy hyk, (e3 x hx hox).1 y hy]
          by_cases hq : y < k ∧ ¬ o.testBit y = true
          · rw [if_pos hq, if_pos ⟨by omega, hq.2⟩]
            exact tdiv_ex hd (by grind)
          · rw [if_neg hq, if_neg (fun z => hq ⟨by have := z.1; omega, z.2⟩)]
            exact tdiv_ex hd (by grind)
      · rw [w2 x hx, if_neg hxk, rkk, rxk, (e3 x hx hox).2, (e2 k hk hok).2]
        refine tdiv_ex hd ?_
        show _ = d * (e * M x 8 - (if o.testBit k = true then _ else cs o (fun f => M x f * b f) k + M x k * b k))
        rw [if_neg hok]
        grind

/-! 8: both eliminations of one town -/
theorem Lst_cong {fx fx' : Nat → Prop} {ad ad' : Nat → Nat → Prop} {m R : Nat} (hf : ∀ i, i < m → (fx i ↔ fx' i)) (ha : ∀ i j, i < m → j < m → (ad i j ↔ ad' i j)) (h : Lst fx ad m R) : Lst fx' ad' m R := by
  obtain ⟨h1, h2, h3, h4⟩ := h
  refine ⟨h1, fun i hi z => h2 i hi ((hf i hi).mpr z), fun i j hi hj hr z => h3 i j hi hj hr ((ha i j hi hj).mpr z), fun T hT1 hT2 i hi => h4 T (fun i hi z => hT1 i hi ((hf i hi).mp z)) (fun i j hi hj hTi z => hT2 i j hi hj hTi ((ha i j hi hj).mp z)) i hi⟩
/-- the two towns are one -/
def Tw (ki sh ki' sh' : Nat → Int32) (b m : Nat) : Prop := m ≤ 8 ∧ ShV sh m ∧ (∀ a, a < m → ((ki a = 1 ∨ ki a = 3) ↔ (ki' a = 1 ∨ ki' a = 3 ∨ b.testBit a = true))) ∧ (∀ a c, a < m → c < m → sh (8 * a + c) = sh' (8 * a + c))
theorem Tw_rc {ki sh ki' sh' : Nat → Int32} {b m : Nat} (h : Tw ki sh ki' sh' b m) : rcM ki' sh' b m = rcF ki sh m := by
  obtain ⟨hm, hv, hk, hs⟩ := h
  refine LS_one (rcM_LS ki' sh' b m) (Lst_cong hk (fun i j hi hj => ?_) (rcF_LS ki sh m))
  rw [(hv i j (by omega) (by omega)).2.1, hs j i hj hi]
theorem wt_cong {sh sh' : Nat → Int32} {a : Nat} : ∀ n, (∀ c, c < n → sh (8 * a + c) = sh' (8 * a + c)) → wt sh a n = wt sh' a n
  | 0, _ => rfl
  | n + 1, h => by
    unfold wt
    rw [wt_cong n (fun c hc => h c (by omega)), h n (by omega)]
theorem miI_val {rw : Nat → Int64} {i : Nat} : ∀ J, J ≤ 8 → ∀ x y, y < 8 → miI rw i J (8 * x + y) = if x = i ∧ y < J then (if i = y then 1 else 0) else rw (8 * x + y) := by
  intro J
  induction J with
  | zero => intro _ x y _; rw [if_neg (by omega)]; rfl
  | succ J ih =>
    intro hJ x y hy
    rw [miI]
    unfold vp_updL
    by_cases hq : 8 * x + y = 8 * i + J
    · have h1 : x = i := by omega
      have h2 : y = J := by omega
      subst h1; subst h2
      rw [if_pos rfl, if_pos (show x = x ∧ y < y + 1 from ⟨rfl, by omega⟩)]
    · rw [if_neg hq, ih (by omega) x y hy]
      by_cases h1 : x = i ∧ y < J
      · rw [if_pos h1, if_pos (show x = i ∧ y < J + 1 from ⟨h1.1, by omega⟩)]
      · rw [if_neg h1, if_neg (fun z => h1 ⟨z.1, by have := z.1; have := z.2; omega⟩)]
theorem mwI_val {rw : Nat → Int64} {sh : Nat → Int32} {i m : Nat} : ∀ J, J ≤ 8 → ∀ x y, y < 8 → mwI rw sh i m J (8 * x + y) = if x = i ∧ y < J then (if i = y then (wt sh i m).toInt64 else (-(sh (8 * i + y))).toInt64) else rw (8 * x + y) := by
  intro J
  induction J with
  | zero => intro _ x y _; rw [if_neg (by omega)]; rfl
  | succ J ih =>
    intro hJ x y hy
    rw [mwI]
    unfold vp_updL
    by_cases hq : 8 * x + y = 8 * i + J
    · have h1 : x = i := by omega
      have h2 : y = J := by omega
      subst h1; subst h2
      rw [if_pos rfl, if_pos (show x = x ∧ y < y + 1 from ⟨rfl, by omega⟩)]
    · rw [if_neg hq, ih (by omega) x y hy]
      by_cases h1 : x = i ∧ y < J
      · rw [if_pos h1, if_pos (show x = i ∧ y < J + 1 from ⟨h1.1, by omega⟩)]
      · rw [if_neg h1, if_neg (fun z => h1 ⟨z.1, by have := z.1; have := z.2; omega⟩)]
theorem mfO_val {rw su : Nat → Int64} {ki as sh : Nat → Int32} {b r : Nat} {pr w : Int32} {m : Nat} (hm : m ≤ 8) : ∀ n, n ≤ m → (∀ x y, x < m → y < m → x < n → (mfO rw su ki as sh b r pr w m n).1 (8 * x + y) = if r.testBit x = true ∧ ¬ (ki x = 1 ∨ ki x = 3 ∨ b.testBit x = true) then (if x = y then (wt sh x m).toInt64 else (-(sh (8 * x + y))).toInt64) else (if x = y then 1 else 0)) ∧ (∀ x, x < n → (mfO rw su ki as sh b r pr w m n).2 x = if r.testBit x = true ∧ ¬ (ki x = 1 ∨ ki x = 3 ∨ b.testBit x = true) then (if w < 0 then (wt sh x m).toInt64 else 0) else (if ki x = 1 ∨ ki x = 3 ∨ b.testBit x = true then mfv as b pr w x else 0)) := by
  intro n
  induction n with
  | zero => intro _; exact ⟨fun x y _ _ h => by omega, fun x h => by omega⟩
  | succ n ih =>
    intro hn
    obtain ⟨i1, i2⟩ := ih (by omega)
    rw [mfO]
    by_cases hq : r.testBit n = true ∧ ¬ (ki n = 1 ∨ ki n = 3 ∨ b.testBit n = true)
    · rw [if_pos hq]
      refine ⟨fun x y hx hy hxn => ?_, fun x hxn => ?_⟩
      · show mwI _ sh n m m (8 * x + y) = _
        rw [mwI_val m hm x y (by omega)]
        by_cases h1 : x = n
        · subst h1
          rw [if_pos ⟨rfl, hy⟩, if_pos hq]
        · rw [if_neg (fun z => h1 z.1), miI_val m hm x y (by omega), if_neg (fun z => h1 z.1), i1 x y hx hy (by omega)]
      · show vp_updL _ n _ x = _
        unfold vp_updL
        by_cases h1 : x = n
        · subst h1
          rw [if_pos rfl, if_pos hq]
        · rw [if_neg h1, i2 x (by omega)]
    · rw [if_neg hq]
      refine ⟨fun x y hx hy hxn => ?_, fun x hxn => ?_⟩
      · show miI _ n m (8 * x + y) = _
        rw [miI_val m hm x y (by omega)]
        by_cases h1 : x = n
        · subst h1
          rw [if_pos ⟨rfl, hy⟩, if_neg hq]
        · rw [if_neg (fun z => h1 z.1), i1 x y hx hy (by omega)]
      · show vp_updL _ n _ x = _
        unfold vp_updL
        by_cases h1 : x = n
        · subst h1
          rw [if_pos rfl, if_neg hq]
        · rw [if_neg h1, i2 x (by omega)]
/-- what a fixed house gives, as a whole number -/
def bz (as : Nat → Int32) (ki : Nat → Int32) (b : Nat) (pr w : Int32) (m f : Nat) : Int := if f < m ∧ (ki f = 1 ∨ ki f = 3 ∨ b.testBit f = true) then (mfv as b pr w f).toInt else 0
def ez (w : Int32) : Int := if w < 0 then 1 else 0
theorem mfv_neg {as : Nat → Int32} {b : Nat} {pr w : Int32} {f : Nat} (hw : w < 0) (hf : f < 8) : mfv as b pr w f = 0 := by
  unfold mfv
  rw [if_neg (fun z => by rw [z] at hw; exact absurd hw (by decide)), if_neg (fun z => by
    rw [z, fa_lt, nI_toInt (by omega)] at hw
    have : (0 : Int32).toInt = 0 := rfl
    omega)]
theorem op_eq {ki sh ki' sh' : Nat → Int32} {b m : Nat} (h : Tw ki sh ki' sh' b m) {x : Nat} (hx : x < m) : (opN ki sh m).testBit x = true ↔ ((rcM ki' sh' b m).testBit x = true ∧ ¬ (ki' x = 1 ∨ ki' x = 3 ∨ b.testBit x = true)) := by
  rw [opN_bit, Tw_rc h, h.2.2.1 x hx]
theorem MI_zero {ro rw su : Nat → Int64} {ki sh ki' as' sh' : Nat → Int32} {b m : Nat} {pr w : Int32} (h : Tw ki sh ki' sh' b m) : MI (flO ro sh (opN ki sh m) m m) (msF rw su ki' as' sh' b pr w m).1 (msF rw su ki' as' sh' b pr w m).2 (opN ki sh m) m (ez w) (bz as' ki' b pr w m) 0 := by
  have hm := h.1
  have hv := h.2.1
  obtain ⟨v1, v2⟩ := mfO_val (rw := rw) (su := su) (ki := ki') (as := as') (sh := sh') (b := b) (r := rcM ki' sh' b m) (pr := pr) (w := w) hm m (Nat.le_refl m)
  have hwt : ∀ x, x < m → wt sh' x m = wt sh x m := fun x hx => (wt_cong m (fun c hc => h.2.2.2 x c hx hc)).symm
  refine ⟨rfl, fun x hx hox => ?_, fun x hx hox => ?_⟩
  · have hn : ¬ ((rcM ki' sh' b m).testBit x = true ∧ ¬ (ki' x = 1 ∨ ki' x = 3 ∨ b.testBit x = true)) := fun z => hox ((op_eq h hx).mpr z)
    refine ⟨fun y hy => ?_, ?_⟩
    · show ((mfO rw su ki' as' sh' b (rcM ki' sh' b m) pr w m m).1 (8 * x + y)).toInt = if x = y then 1 else 0
      rw [v1 x y hx hy hx, if_neg hn]
      split <;> rfl
    · show ((mfO rw su ki' as' sh' b (rcM ki' sh' b m) pr w m m).2 x).toInt = 1 * bz as' ki' b pr w m x
      rw [v2 x hx, if_neg hn]
      unfold bz
      by_cases hf : ki' x = 1 ∨ ki' x = 3 ∨ b.testBit x = true
      · rw [if_pos hf, if_pos ⟨hx, hf⟩]; omega
      · rw [if_neg hf, if_neg (fun z => hf z.2)]; rfl
  · have hp := (op_eq h hx).mp hox
    obtain ⟨f1, f2, f3⟩ := fl_z (ro := ro) hv hm (i := x) (o := opN ki sh m) ⟨hx, hox⟩
    refine ⟨fun y hy => ?_, ?_⟩
    · show ((mfO rw su ki' as' sh' b (rcM ki' sh' b m) pr w m m).1 (8 * x + y)).toInt = if y < 0 ∧ _ then 0 else Mz (flO ro sh (opN ki sh m) m m) x y
      rw [v1 x y hx hy hx, if_pos hp, if_neg (show ¬ (y < 0 ∧ ¬ (opN ki sh m).testBit y = true) from fun z => by omega)]
      by_cases hxy : x = y
      · subst hxy
        rw [if_pos (show x = x from rfl), hwt x hx, f2, Int32.toInt_toInt64, wt_z hv (by omega) m hm]
      · rw [if_neg hxy, f1 y (by omega) (fun z => hxy z.symm), ← h.2.2.2 x y hx hy, neg_sh hv (by omega) (by omega)]
    · show ((mfO rw su ki' as' sh' b (rcM ki' sh' b m) pr w m m).2 x).toInt = ez w * Mz (flO ro sh (opN ki sh m) m m) x 8 - 0
      rw [v2 x hx, if_pos hp, f3]
      unfold ez
      by_cases hw : w < 0
      · rw [if_pos hw, if_pos hw, hwt x hx, Int32.toInt_toInt64, wt_z hv (by omega) m hm]; omega
      · rw [if_neg hw, if_neg hw]
        show (0 : Int) = _
        omega
/-- at every step -/
theorem both {ro rw su : Nat → Int64} {ki sh ki' as' sh' : Nat → Int32} {b m : Nat} {pr w : Int32} (h : Tw ki sh ki' sh' b m) (hb : ∀ f, f < m → (ki' f = 1 ∨ ki' f = 3 ∨ b.testBit f = true) → 0 ≤ (mfv as' b pr w f).toInt ∧ (mfv as' b pr w f).toInt ≤ 99) : ∀ k, k ≤ m → MI (flO ro sh (opN ki sh m) m m) (msF rw su ki' as' sh' b pr w m).1 (msF rw su ki' as' sh' b pr w m).2 (opN ki sh m) m (ez w) (bz as' ki' b pr w m) k ∧ BI (Mz (flO ro sh (opN ki sh m) m m)) (Mz (coF (flO ro sh (opN ki sh m) m m) (opN ki sh m) m k).1) (opL (opN ki sh m) k) (coF (flO ro sh (opN ki sh m) m m) (opN ki sh m) m k).2.toInt (fun i => i < m ∧ (opN ki sh m).testBit i = true) ∧ BS (Mz (coF (flO ro sh (opN ki sh m) m m) (opN ki sh m) m k).1) (opL (opN ki sh m) k) (coF (flO ro sh (opN ki sh m) m m) (opN ki sh m) m k).2.toInt (fun i => i < m ∧ (opN ki sh m).testBit i = true) := by
  have hm := h.1
  have hv := h.2.1
  obtain ⟨s1, s2⟩ := start_BS (ro := ro) (ki := ki) hv hm
  have hrun := cls_run (ro := flO ro sh (opN ki sh m) m m) (o := opN ki sh m) hm s1 s2 (op_some ki sh hm) (op_lt ki sh m)
  have hbz : ∀ f, 0 ≤ bz as' ki' b pr w m f ∧ bz as' ki' b pr w m f ≤ 99 := by
    intro f
    unfold bz
    by_cases hf : f < m ∧ (ki' f = 1 ∨ ki' f = 3 ∨ b.testBit f = true)
    · rw [if_pos hf]; exact hb f hf.1 hf.2
    · rw [if_neg hf]; omega
  have hez : ez w = 0 ∨ (ez w = 1 ∧ ∀ f, bz as' ki' b pr w m f = 0) := by
    unfold ez
    by_cases hw : w < 0
    · rw [if_pos hw]
      refine Or.inr ⟨rfl, fun f => ?_⟩
      unfold bz
      by_cases hf : f < m ∧ (ki' f = 1 ∨ ki' f = 3 ∨ b.testBit f = true)
      · rw [if_pos hf, mfv_neg hw (by omega)]; rfl
      · rw [if_neg hf]
    · rw [if_neg hw]; exact Or.inl rfl
  intro k
  induction k with
  | zero => intro _; exact ⟨MI_zero h, hrun 0 (by omega)⟩
  | succ k ih =>
    intro hk
    obtain ⟨i1, i2, i3⟩ := ih (by omega)
    exact ⟨MI_step hm s1 (op_some ki sh hm) (op_lt ki sh m) hbz hez (by omega) i2 i3 i1, hrun (k + 1) hk⟩

/-! 9: what both come to -/
theorem i64_eq {a b : Int64} (h : a.toInt = b.toInt) : a = b := Int64.toInt_inj.mp h
theorem fin_all {ro rw su : Nat → Int64} {ki sh ki' as' sh' : Nat → Int32} {b m : Nat} {pr w : Int32} (h : Tw ki sh ki' sh' b m) (hb : ∀ f, f < m → (ki' f = 1 ∨ ki' f = 3 ∨ b.testBit f = true) → 0 ≤ (mfv as' b pr w f).toInt ∧ (mfv as' b pr w f).toInt ≤ 99) :
    (∀ k, k < m → ¬ (msE rw su ki' as' sh' b pr w m k).2 = 0) ∧ (msE rw su ki' as' sh' b pr w m m).2 = (slR ro ki sh m).2 ∧ (0 < (slR ro ki sh m).2.toInt ∧ (slR ro ki sh m).2.toInt ≤ 105413504) ∧
    (∀ x, x < m → ¬ (opN ki sh m).testBit x = true → ((msE rw su ki' as' sh' b pr w m m).1.2 x).toInt = (slR ro ki sh m).2.toInt * bz as' ki' b pr w m x) ∧
    (∀ x, x < m → (opN ki sh m).testBit x = true → ((msE rw su ki' as' sh' b pr w m m).1.2 x).toInt = ez w * Mz (slR ro ki sh m).1 x 8 - cs (opN ki sh m) (fun f => Mz (slR ro ki sh m).1 x f * bz as' ki' b pr w m f) m) ∧
    (∀ x, x < m → (opN ki sh m).testBit x = true → Mz (slR ro ki sh m).1 x x = (slR ro ki sh m).2.toInt ∧ (∀ c, c < 8 → c ≠ x → -(slR ro ki sh m).2.toInt ≤ Mz (slR ro ki sh m).1 x c ∧ Mz (slR ro ki sh m).1 x c ≤ 0) ∧ (0 ≤ Mz (slR ro ki sh m).1 x 8 ∧ Mz (slR ro ki sh m).1 x 8 ≤ 13492928512) ∧ sm8 (Mz (slR ro ki sh m).1 x) = 0) := by
  have hm := h.1
  have hall := both (ro := ro) (rw := rw) (su := su) h hb
  obtain ⟨m1, m2, m3⟩ := hall m (Nat.le_refl m)
  obtain ⟨b1, b2, b3⟩ := st_bd hm (Nat.le_refl m) (op_some ki sh hm) (op_lt ki sh m) m2 m3
  refine ⟨fun k hk hz => ?_, i64_eq m1.1, ⟨b1, b2⟩, fun x hx ho => (m1.2.1 x hx ho).2, fun x hx ho => (m1.2.2 x hx ho).2, fun x hx ho => ?_⟩
  · obtain ⟨k1, k2, k3⟩ := hall k (by omega)
    have := k2.1
    rw [← k1.1] at this
    rw [show (meO (msF rw su ki' as' sh' b pr w m).1 (msF rw su ki' as' sh' b pr w m).2 m k).2 = 0 from hz] at this
    exact absurd this (by decide)
  · have hxx := (m2.2.2.2.1 x ((opL_mem _ m x).mpr ⟨hx, ho⟩)).1
    obtain ⟨q1, q2, q3, q4, q5⟩ := b3 x ⟨hx, ho⟩
    exact ⟨hxx, fun c hc hcx => ⟨by have := (q3 c hc hcx).1; rw [hxx] at this; exact this, (q3 c hc hcx).2⟩, ⟨q4, q5⟩, m3.2.1 x ⟨hx, ho⟩⟩
/-- a sum over a set -/
def rz (s : Nat) (g : Nat → Int) : Nat → Int
  | 0 => 0
  | i + 1 => if s.testBit i = true then rz s g i + g i else rz s g i
def mvz (ro : Nat → Int64) (o : Nat) (be : Int64) (x f : Nat) : Int := if o.testBit x = true then -(Mz ro x f) else if x = f then be.toInt else 0
theorem mvA_z {ro : Nat → Int64} {o : Nat} {be : Int64} {x f : Nat} (hf : f < 8) (hx : o.testBit x = true → -105413504 ≤ Mz ro x f ∧ Mz ro x f ≤ 105413504) : (mvA ro o be x f).toInt = mvz ro o be x f := by
  unfold mvA mvz
  by_cases ho : o.testBit x = true
  · rw [if_pos ho, if_pos ho]
    have := hx ho
    unfold Mz at this ⊢
    rw [if_pos (by omega)] at this ⊢
    exact negL (by omega)
  · rw [if_neg ho, if_neg ho]
    split <;> rfl
theorem raF_z {ro : Nat → Int64} {r o : Nat} {be : Int64} {ak : Nat → Int32} {x : Nat} (hmv : ∀ f, f < 8 → (mvA ro o be x f).toInt = mvz ro o be x f ∧ -105413504 ≤ mvz ro o be x f ∧ mvz ro o be x f ≤ 105413504) (hak : ∀ f, f < 8 → (andn r o).testBit f = true → 0 ≤ (ak f).toInt ∧ (ak f).toInt ≤ 99) : ∀ i, i ≤ 8 → (raF ro r o be ak x i).toInt = rz (andn r o) (fun f => mvz ro o be x f * (ak f).toInt) i ∧ -(10435936896 * i) ≤ rz (andn r o) (fun f => mvz ro o be x f * (ak f).toInt) i ∧ rz (andn r o) (fun f => mvz ro o be x f * (ak f).toInt) i ≤ 10435936896 * i
  | 0, _ => ⟨rfl, by simp [rz], by simp [rz]⟩
  | i + 1, hi => by
    obtain ⟨h1, h2, h3⟩ := raF_z hmv hak i (by omega)
    unfold raF rz
    by_cases hs : (andn r o).testBit i = true
    · rw [if_pos hs, if_pos hs]
      obtain ⟨p1, p2, p3⟩ := hmv i (by omega)
      have p4 := hak i (by omega) hs
      have p5 := mul_bd (a := mvz ro o be x i) (b := (ak i).toInt) (X := 105413504) (Y := 99) ⟨by omega, p3⟩ ⟨by omega, p4.2⟩
      have e1 : (mvA ro o be x i * (ak i).toInt64).toInt = mvz ro o be x i * (ak i).toInt := by
        rw [fb_mulL, p1, Int32.toInt_toInt64] <;> rw [p1, Int32.toInt_toInt64] <;> omega
      have e2 : (raF ro r o be ak x i + mvA ro o be x i * (ak i).toInt64).toInt = rz (andn r o) (fun f => mvz ro o be x f * (ak f).toInt) i + mvz ro o be x i * (ak i).toInt := by
        rw [fb_addL, h1, e1] <;> rw [h1, e1] <;> omega
      exact ⟨e2, by omega, by omega⟩
    · rw [if_neg hs, if_neg hs]
      exact ⟨h1, by omega, by omega⟩
theorem maF_val {ab su : Nat → Int64} : ∀ n x, x < n → maF ab su n x = su x
  | 0, _, h => by omega
  | n + 1, x, h => by
    show vp_updL (maF ab su n) n (su n) x = su x
    unfold vp_updL
    by_cases h1 : x = n
    · subst h1; rw [if_pos rfl]
    · rw [if_neg h1, maF_val n x (by omega)]
theorem abF_val {ab ro : Nat → Int64} {r o : Nat} {be : Int64} {ak : Nat → Int32} {m : Nat} : ∀ n x, x < n → abF ab ro r o be ak m n x = if r.testBit x = true then raF ro r o be ak x m else 0
  | 0, _, h => by omega
  | n + 1, x, h => by
    show vp_updL (abF ab ro r o be ak m n) n _ x = _
    unfold vp_updL
    by_cases h1 : x = n
    · subst h1; rw [if_pos rfl]
    · rw [if_neg h1, abF_val n x (by omega)]
theorem rz_one {s : Nat} {d : Int} {a : Nat → Int} {x : Nat} (hx : s.testBit x = true) : ∀ i, rz s (fun f => (if x = f then d else 0) * a f) i = if x < i then d * a x else 0
  | 0 => by rw [if_neg (by omega)]; rfl
  | i + 1 => by
    have ih := rz_one (d := d) (a := a) hx i
    unfold rz
    by_cases hs : s.testBit i = true
    · rw [if_pos hs, ih]
      by_cases hxi : x = i
      · subst hxi; rw [if_neg (by omega), if_pos rfl, if_pos (by omega)]; omega
      · rw [if_neg hxi]
        by_cases hlt : x < i
        · rw [if_pos hlt, if_pos (by omega)]; omega
        · rw [if_neg hlt, if_neg (by omega)]; omega
    · rw [if_neg hs, ih]
      have hxi : x ≠ i := fun z => hs (z ▸ hx)
      by_cases hlt : x < i
      · rw [if_pos hlt, if_pos (by omega)]
      · rw [if_neg hlt, if_neg (by omega)]
theorem rz_cs {r o : Nat} {M a b : Nat → Int} : ∀ i, (∀ f, f < i → ¬ o.testBit f = true → (r.testBit f = true → a f = b f) ∧ (¬ r.testBit f = true → b f = 0)) → rz (andn r o) (fun f => -(M f) * a f) i = -cs o (fun f => M f * b f) i
  | 0, _ => rfl
  | i + 1, h => by
    have ih := rz_cs (M := M) i (fun f hf => h f (by omega))
    have hbit : (andn r o).testBit i = true ↔ (r.testBit i = true ∧ (!o.testBit i) = true) := by rw [andn_bit, Bool.and_eq_true]
    unfold rz cs
    by_cases ho : o.testBit i = true
    · rw [if_pos ho, if_neg (fun z => by rw [hbit, ho] at z; exact absurd z.2 (by decide)), ih]
    · have ho' : (!o.testBit i) = true := by cases hb : o.testBit i <;> simp_all
      rw [if_neg ho]
      obtain ⟨h1, h2⟩ := h i (by omega) ho
      by_cases hr : r.testBit i = true
      · rw [if_pos (hbit.mpr ⟨hr, ho'⟩), ih, h1 hr]; grind
      · rw [if_neg (fun z => hr (hbit.mp z).1), ih, h2 hr]; grind
theorem rc_of {ki sh : Nat → Int32} {m x : Nat} (hx : x < m) (hf : ki x = 1 ∨ ki x = 3) : (rcF ki sh m).testBit x = true := (rcF_LS ki sh m).2.1 x hx hf
theorem an_fx {ki sh : Nat → Int32} {m x : Nat} : (andn (rcF ki sh m) (opN ki sh m)).testBit x = true ↔ (x < m ∧ (ki x = 1 ∨ ki x = 3)) := by
  rw [andn_bit, Bool.and_eq_true]
  constructor
  · rintro ⟨h1, h2⟩
    refine ⟨rcF_LS' ki sh m x h1, Classical.byContradiction fun hn => ?_⟩
    rw [(opN_bit ki sh m x).mpr ⟨h1, hn⟩] at h2
    exact absurd h2 (by decide)
  · rintro ⟨h1, h2⟩
    refine ⟨rc_of h1 h2, ?_⟩
    cases hb : (opN ki sh m).testBit x
    · rfl
    · exact absurd h2 ((opN_bit ki sh m x).mp hb).2
/-- the rents: both have the same -/
theorem fin_rent {ro rw su : Nat → Int64} {ki sh as ak ki' as' sh' : Nat → Int32} {b m : Nat} {pr : Int32} (h : Tw ki sh ki' sh' b m) (hbv : ∀ f, f < m → (ki f = 1 ∨ ki f = 3) → mfv as' b pr 0 f = (as f).toInt64 ∧ 0 ≤ (as f).toInt ∧ (as f).toInt ≤ 99) (hak : ∀ f, f < m → ak f = as f) :
    (∀ k, k < m → ¬ (msE rw su ki' as' sh' b pr 0 m k).2 = 0) ∧ (msE rw su ki' as' sh' b pr 0 m m).2 = (slR ro ki sh m).2 ∧ (0 < (slR ro ki sh m).2.toInt ∧ (slR ro ki sh m).2.toInt ≤ 105413504) ∧
    (∀ x, x < m → (msE rw su ki' as' sh' b pr 0 m m).1.2 x = if (rcF ki sh m).testBit x = true then raF (slR ro ki sh m).1 (rcF ki sh m) (opN ki sh m) (slR ro ki sh m).2 ak x m else 0) ∧
    (∀ x, x < m → 0 ≤ ((msE rw su ki' as' sh' b pr 0 m m).1.2 x).toInt ∧ ((msE rw su ki' as' sh' b pr 0 m m).1.2 x).toInt ≤ 99 * (slR ro ki sh m).2.toInt) ∧
    (∀ x f, x < m → f < 8 → (mvA (slR ro ki sh m).1 (opN ki sh m) (slR ro ki sh m).2 x f).toInt = mvz (slR ro ki sh m).1 (opN ki sh m) (slR ro ki sh m).2 x f ∧ -105413504 ≤ mvz (slR ro ki sh m).1 (opN ki sh m) (slR ro ki sh m).2 x f ∧ mvz (slR ro ki sh m).1 (opN ki sh m) (slR ro ki sh m).2 x f ≤ 105413504) := by
  have hm := h.1
  have hfx : ∀ f, f < m → ((ki f = 1 ∨ ki f = 3) ↔ (ki' f = 1 ∨ ki' f = 3 ∨ b.testBit f = true)) := h.2.2.1
  have hb : ∀ f, f < m → (ki' f = 1 ∨ ki' f = 3 ∨ b.testBit f = true) → 0 ≤ (mfv as' b pr 0 f).toInt ∧ (mfv as' b pr 0 f).toInt ≤ 99 := by
    intro f hf hk
    obtain ⟨q1, q2, q3⟩ := hbv f hf ((hfx f hf).mpr hk)
    rw [q1, Int32.toInt_toInt64]
    exact ⟨q2, q3⟩
  obtain ⟨f1, f2, f3, f4, f5, f6⟩ := fin_all (ro := ro) (rw := rw) (su := su) h hb
  generalize hS : slR ro ki sh m = S at *
  generalize hU : (msE rw su ki' as' sh' b pr 0 m m).1.2 = U at *
  have hbz : ∀ f, f < m → (ki f = 1 ∨ ki f = 3) → bz as' ki' b pr 0 m f = (as f).toInt := by
    intro f hf hk
    unfold bz
    rw [if_pos ⟨hf, (hfx f hf).mp hk⟩, (hbv f hf hk).1, Int32.toInt_toInt64]
  have hbz0 : ∀ f, f < m → ¬ (ki f = 1 ∨ ki f = 3) → bz as' ki' b pr 0 m f = 0 := by
    intro f hf hk
    unfold bz
    rw [if_neg (fun z => hk ((hfx f hf).mpr z.2))]
  have hmv : ∀ x f, x < m → f < 8 → (mvA S.1 (opN ki sh m) S.2 x f).toInt = mvz S.1 (opN ki sh m) S.2 x f ∧ -105413504 ≤ mvz S.1 (opN ki sh m) S.2 x f ∧ mvz S.1 (opN ki sh m) S.2 x f ≤ 105413504 := by
    intro x f hx hf
    have hB : (opN ki sh m).testBit x = true → -105413504 ≤ Mz S.1 x f ∧ Mz S.1 x f ≤ 105413504 := by
      intro ho
      obtain ⟨g1, g2, -, -⟩ := f6 x hx ho
      by_cases hfx2 : f = x
      · subst hfx2; omega
      · have := g2 f hf hfx2; omega
    refine ⟨mvA_z hf hB, ?_⟩
    unfold mvz
    by_cases ho : (opN ki sh m).testBit x = true
    · rw [if_pos ho]; have := hB ho; omega
    · rw [if_neg ho]; split <;> omega
  have hbb : ∀ f, 0 ≤ bz as' ki' b pr 0 m f ∧ bz as' ki' b pr 0 m f ≤ 99 := by
    intro f
    unfold bz
    by_cases hf : f < m ∧ (ki' f = 1 ∨ ki' f = 3 ∨ b.testBit f = true)
    · rw [if_pos hf]; exact hb f hf.1 hf.2
    · rw [if_neg hf]; omega
  have hval : ∀ x, x < m → U x = (if (rcF ki sh m).testBit x = true then raF S.1 (rcF ki sh m) (opN ki sh m) S.2 ak x m else 0) := by
    intro x hx
    apply i64_eq
    have hak2 : ∀ f, f < 8 → (andn (rcF ki sh m) (opN ki sh m)).testBit f = true → 0 ≤ (ak f).toInt ∧ (ak f).toInt ≤ 99 := by
      intro f _ hf
      obtain ⟨g1, g2⟩ := an_fx.mp hf
      rw [hak f g1]
      exact (hbv f g1 g2).2
    have hra := (raF_z (fun f hf => hmv x f hx hf) hak2 m hm).1
    by_cases ho : (opN ki sh m).testBit x = true
    · have hr := ((opN_bit ki sh m x).mp ho).1
      rw [f5 x hx ho, if_pos hr, hra]
      have e1 : rz (andn (rcF ki sh m) (opN ki sh m)) (fun f => mvz S.1 (opN ki sh m) S.2 x f * (ak f).toInt) m = rz (andn (rcF ki sh m) (opN ki sh m)) (fun f => -(Mz S.1 x f) * (ak f).toInt) m := by
        have : (fun f => mvz S.1 (opN ki sh m) S.2 x f * (ak f).toInt) = (fun f => -(Mz S.1 x f) * (ak f).toInt) := by
          funext f; unfold mvz; rw [if_pos ho]
        rw [this]
      rw [e1, rz_cs (b := bz as' ki' b pr 0 m)]
      · show ez 0 * _ - _ = _
        unfold ez
        rw [if_neg (by decide)]
        omega
      · intro f hf hof
        refine ⟨fun hr => ?_, fun hr => ?_⟩
        · have hk : ki f = 1 ∨ ki f = 3 := Classical.byContradiction fun z => hof ((opN_bit ki sh m f).mpr ⟨hr, z⟩)
          rw [hak f hf, hbz f hf hk]
        · exact hbz0 f hf (fun z => hr (rc_of hf z))
    · rw [f4 x hx ho]
      by_cases hr : (rcF ki sh m).testBit x = true
      · have hk : ki x = 1 ∨ ki x = 3 := Classical.byContradiction fun z => ho ((opN_bit ki sh m x).mpr ⟨hr, z⟩)
        rw [if_pos hr, hra]
        have : (fun f => mvz S.1 (opN ki sh m) S.2 x f * (ak f).toInt) = (fun f => (if x = f then S.2.toInt else 0) * (ak f).toInt) := by
          funext f; unfold mvz; rw [if_neg ho]
        rw [this, rz_one (a := fun f => (ak f).toInt) (an_fx.mpr ⟨hx, hk⟩), if_pos hx, hak x hx, hbz x hx hk]
      · rw [if_neg hr, hbz0 x hx (fun z => hr (rc_of hx z))]
        show _ * 0 = (0 : Int)
        omega
  refine ⟨f1, f2, f3, hval, fun x hx => ?_, hmv⟩
  by_cases ho : (opN ki sh m).testBit x = true
  · rw [f5 x hx ho]
    obtain ⟨g1, g2, -, g4⟩ := f6 x hx ho
    have c1 := cs_bd (o := opN ki sh m) (g := Mz S.1 x) (b := bz as' ki' b pr 0 m) (fun f hf hfo => (g2 f hf (fun z => hfo (z ▸ ho))).2) hbb m hm
    have c2 := cs_le (o := opN ki sh m) (u := Mz S.1 x) (x := x) (by omega) ho g4 (fun j hj hjx => (g2 j hj hjx).2) m hm
    have : ez 0 = 0 := rfl
    rw [this]
    omega
  · rw [f4 x hx ho]
    have := hbb x
    have k1 := mle (show 0 ≤ S.2.toInt by omega) this.1
    have k2 := mle (show 0 ≤ S.2.toInt by omega) this.2
    omega
theorem nI1_ne {f : Nat} (hf : f < 8) : ¬ (nI (1 + f) = 0) := by
  rw [nI_z (by omega)]; omega
theorem cs_one {o f : Nat} {g : Nat → Int} (hf : ¬ o.testBit f = true) : ∀ k, cs o (fun x => g x * (if x = f then 1 else 0)) k = if f < k then g f else 0
  | 0 => by rw [if_neg (by omega)]; rfl
  | k + 1 => by
    have ih := cs_one (g := g) hf k
    unfold cs
    by_cases ho : o.testBit k = true
    · have hkf : k ≠ f := fun z => hf (z ▸ ho)
      rw [if_pos ho, ih]
      by_cases hlt : f < k
      · rw [if_pos hlt, if_pos (by omega)]
      · rw [if_neg hlt, if_neg (by omega)]
    · rw [if_neg ho, ih]
      by_cases hkf : k = f
      · subst hkf; rw [if_neg (by omega), if_pos rfl, if_pos (by omega)]; omega
      · rw [if_neg hkf]
        by_cases hlt : f < k
        · rw [if_pos hlt, if_pos (by omega)]; omega
        · rw [if_neg hlt, if_neg (by omega)]; omega
/-- what one more at a gate moves -/
theorem fin_move {ro rw su : Nat → Int64} {ki sh ki' as' sh' : Nat → Int32} {m f : Nat} {pr : Int32} (h : Tw ki sh ki' sh' 0 m) (hf : f < m) (hk : ki f = 1 ∨ ki f = 3) :
    (∀ k, k < m → ¬ (msE rw su ki' as' sh' 0 pr (nI (1 + f)) m k).2 = 0) ∧ (msE rw su ki' as' sh' 0 pr (nI (1 + f)) m m).2 = (slR ro ki sh m).2 ∧ (0 < (slR ro ki sh m).2.toInt ∧ (slR ro ki sh m).2.toInt ≤ 105413504) ∧
    (∀ x, x < m → (msE rw su ki' as' sh' 0 pr (nI (1 + f)) m m).1.2 x = mvA (slR ro ki sh m).1 (opN ki sh m) (slR ro ki sh m).2 x f ∧ -105413504 ≤ (mvA (slR ro ki sh m).1 (opN ki sh m) (slR ro ki sh m).2 x f).toInt) := by
  have hm := h.1
  have hfx := h.2.2.1
  have hmf : ∀ g, g < 8 → (mfv as' 0 pr (nI (1 + f)) g).toInt = if g = f then 1 else 0 := by
    intro g hg
    unfold mfv
    rw [if_neg (nI1_ne (by omega))]
    by_cases hgf : g = f
    · subst hgf; rw [if_pos rfl, if_pos rfl]; rfl
    · rw [if_neg hgf, if_neg (fun z => hgf (by rw [nI_eq (by omega) (by omega)] at z; omega))]; rfl
  have hb : ∀ g, g < m → (ki' g = 1 ∨ ki' g = 3 ∨ (0 : Nat).testBit g = true) → 0 ≤ (mfv as' 0 pr (nI (1 + f)) g).toInt ∧ (mfv as' 0 pr (nI (1 + f)) g).toInt ≤ 99 := by
    intro g hg _
    rw [hmf g (by omega)]
    split <;> omega
  have hbz : ∀ g, bz as' ki' 0 pr (nI (1 + f)) m g = if g = f then 1 else 0 := by
    intro g
    unfold bz
    by_cases hg : g < m ∧ (ki' g = 1 ∨ ki' g = 3 ∨ (0 : Nat).testBit g = true)
    · rw [if_pos hg, hmf g (by omega)]
    · rw [if_neg hg, if_neg (fun z => hg (by subst z; exact ⟨hf, (hfx g hf).mp hk⟩))]
  obtain ⟨f1, f2, f3, f4, f5, f6⟩ := fin_all (ro := ro) (rw := rw) (su := su) h hb
  refine ⟨f1, f2, f3, fun x hx => ?_⟩
  have hB : (opN ki sh m).testBit x = true → -105413504 ≤ Mz (slR ro ki sh m).1 x f ∧ Mz (slR ro ki sh m).1 x f ≤ 105413504 := by
    intro ho
    obtain ⟨g1, g2, -, -⟩ := f6 x hx ho
    by_cases hfx2 : f = x
    · subst hfx2; omega
    · have := g2 f (by omega) hfx2; omega
  have hz := mvA_z (ro := (slR ro ki sh m).1) (o := opN ki sh m) (be := (slR ro ki sh m).2) (x := x) (f := f) (by omega) hB
  have hfo : ¬ (opN ki sh m).testBit f = true := fun z => ((opN_bit ki sh m f).mp z).2 hk
  refine ⟨i64_eq ?_, ?_⟩
  · rw [hz]
    unfold mvz
    by_cases ho : (opN ki sh m).testBit x = true
    · rw [f5 x hx ho, if_pos ho]
      have e1 : (fun g => Mz (slR ro ki sh m).1 x g * bz as' ki' 0 pr (nI (1 + f)) m g) = (fun g => Mz (slR ro ki sh m).1 x g * (if g = f then 1 else 0)) := by
        funext g; rw [hbz]
      rw [e1, cs_one (g := Mz (slR ro ki sh m).1 x) hfo m, if_pos hf]
      have : ez (nI (1 + f)) = 0 := by
        unfold ez
        rw [if_neg]
        intro z
        rw [fa_lt, nI_toInt (by omega)] at z
        have : (0 : Int32).toInt = 0 := rfl
        omega
      rw [this]; omega
    · rw [f4 x hx ho, if_neg ho, hbz]
      split <;> omega
  · rw [hz]
    unfold mvz
    by_cases ho : (opN ki sh m).testBit x = true
    · rw [if_pos ho]; have := hB ho; omega
    · rw [if_neg ho]; split <;> omega
/-- how long the walks are -/
theorem fin_walk {ro rw su : Nat → Int64} {ki sh ki' as' sh' : Nat → Int32} {m : Nat} {pr : Int32} (h : Tw ki sh ki' sh' 0 m) :
    (∀ k, k < m → ¬ (msE rw su ki' as' sh' 0 pr (-1) m k).2 = 0) ∧ (msE rw su ki' as' sh' 0 pr (-1) m m).2 = (slR ro ki sh m).2 ∧ (0 < (slR ro ki sh m).2.toInt ∧ (slR ro ki sh m).2.toInt ≤ 105413504) ∧
    (∀ x, x < m → (msE rw su ki' as' sh' 0 pr (-1) m m).1.2 x = stA (slR ro ki sh m).1 (opN ki sh m) x ∧ 0 ≤ (stA (slR ro ki sh m).1 (opN ki sh m) x).toInt) := by
  have hm := h.1
  have hb : ∀ g, g < m → (ki' g = 1 ∨ ki' g = 3 ∨ (0 : Nat).testBit g = true) → 0 ≤ (mfv as' 0 pr (-1) g).toInt ∧ (mfv as' 0 pr (-1) g).toInt ≤ 99 := by
    intro g hg _
    rw [mfv_neg (by decide) (by omega)]
    decide
  have hbz : ∀ g, bz as' ki' 0 pr (-1) m g = 0 := by
    intro g
    unfold bz
    by_cases hg : g < m ∧ (ki' g = 1 ∨ ki' g = 3 ∨ (0 : Nat).testBit g = true)
    · rw [if_pos hg, mfv_neg (by decide) (by omega)]; rfl
    · rw [if_neg hg]
  obtain ⟨f1, f2, f3, f4, f5, f6⟩ := fin_all (ro := ro) (rw := rw) (su := su) h hb
  refine ⟨f1, f2, f3, fun x hx => ?_⟩
  unfold stA
  by_cases ho : (opN ki sh m).testBit x = true
  · rw [if_pos ho]
    obtain ⟨-, -, g3, -⟩ := f6 x hx ho
    have e0 : Mz (slR ro ki sh m).1 x 8 = ((slR ro ki sh m).1 (9 * x + 8)).toInt := by unfold Mz; rw [if_pos (by omega)]
    refine ⟨i64_eq ?_, by rw [← e0]; exact g3.1⟩
    rw [f5 x hx ho, ← e0]
    have c1 : cs (opN ki sh m) (fun g => Mz (slR ro ki sh m).1 x g * bz as' ki' 0 pr (-1) m g) m = 0 := by
      rw [cs_cong (g' := fun f => 0 * Mz (slR ro ki sh m).1 x f + 0 * Mz (slR ro ki sh m).1 x f) m (fun f _ _ => by rw [hbz]; simp), cs_lin]
      simp
    rw [c1]
    have : ez (-1) = 1 := rfl
    rw [this]; omega
  · rw [if_neg ho]
    refine ⟨i64_eq ?_, by decide⟩
    rw [f4 x hx ho, hbz]
    show _ * 0 = (0 : Int)
    omega

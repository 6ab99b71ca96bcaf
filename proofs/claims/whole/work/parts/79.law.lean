/-! the law's loop on the abstract machine -/
/-- a cell keeps its kind -/
def SPc (C C' : AC) : Prop := match C with
  | .inl (n, _) => ∃ f, C' = aI n f
  | .inr (.inl (n, _)) => ∃ f, C' = aJ n f
  | .inr (.inr (.inl (n, _))) => ∃ f, C' = aB n f
  | .inr (.inr (.inr (.inl (n, f)))) => C' = aR n f
  | .inr (.inr (.inr (.inr (c, fs)))) => ∃ fs', C' = aO c fs' ∧ fs'.length = fs.length
theorem SPc_r (C : AC) : SPc C C := by
  rcases C with ⟨n, f⟩ | ⟨n, f⟩ | ⟨n, f⟩ | ⟨n, f⟩ | ⟨c, fs⟩
  · exact ⟨f, rfl⟩
  · exact ⟨f, rfl⟩
  · exact ⟨f, rfl⟩
  · rfl
  · exact ⟨fs, rfl, rfl⟩
theorem SPc_t {C C' C2 : AC} (h : SPc C C') (h' : SPc C' C2) : SPc C C2 := by
  rcases C with ⟨n, f⟩ | ⟨n, f⟩ | ⟨n, f⟩ | ⟨n, f⟩ | ⟨c, fs⟩
  · obtain ⟨f1, rfl⟩ := h; obtain ⟨f2, rfl⟩ := h'; exact ⟨f2, rfl⟩
  · obtain ⟨f1, rfl⟩ := h; obtain ⟨f2, rfl⟩ := h'; exact ⟨f2, rfl⟩
  · obtain ⟨f1, rfl⟩ := h; obtain ⟨f2, rfl⟩ := h'; exact ⟨f2, rfl⟩
  · cases h; cases h'; rfl
  · obtain ⟨f1, rfl, e1⟩ := h; obtain ⟨f2, rfl, e2⟩ := h'; exact ⟨f2, rfl, e2.trans e1⟩
def SP (h h' : AH) : Prop := ∀ a, SPc (h a) (h' a)
theorem SP.r {h : AH} : SP h h := fun a => SPc_r _
theorem SP.t {h h' h2 : AH} (H : SP h h') (H' : SP h' h2) : SP h h2 := fun a => SPc_t (H a) (H' a)
theorem SP.u {h : AH} {a : Nat} {C : AC} (H : SPc (h a) C) : SP h (uH h a C) := fun q => by
  unfold uH
  by_cases e : q = a
  · subst e; rw [if_pos rfl]; exact H
  · rw [if_neg e]; exact SPc_r _
theorem SP_pf {h h' : AH} {a ci k : Nat} {w : Value} (H : pf h a ci k w = some h') : SP h h' := by
  unfold pf at H
  split at H
  · rename_i c fs hc
    split at H
    · rename_i hh
      cases H
      refine SP.u ?_
      rw [hc]
      obtain ⟨rfl, -⟩ := hh
      exact ⟨_, rfl, List.length_set ..⟩
    · cases H
  · cases H
theorem SP_wI {h h' : AH} {a : Nat} {i x : Int32} (H : wI h a i x = some h') : SP h h' := by
  unfold wI at H
  split at H
  · rename_i n f hc
    split at H
    · cases H
    · cases H; refine SP.u ?_; rw [hc]; exact ⟨_, rfl⟩
  · cases H
theorem SP_wJ {h h' : AH} {a : Nat} {i : Int32} {x : Int64} (H : wJ h a i x = some h') : SP h h' := by
  unfold wJ at H
  split at H
  · rename_i n f hc
    split at H
    · cases H
    · cases H; refine SP.u ?_; rw [hc]; exact ⟨_, rfl⟩
  · cases H
theorem SP_wB {h h' : AH} {a : Nat} {i x : Int32} (H : wB h a i x = some h') : SP h h' := by
  unfold wB at H
  split at H
  · rename_i n f hc
    split at H
    · cases H
    · cases H; refine SP.u ?_; rw [hc]; exact ⟨_, rfl⟩
  · cases H
theorem SP_cp {h h' : AH} {a0 a : Nat} {sp dp n : Int32} (H : cpA h a0 a sp dp n = some h') : SP h h' := by
  unfold cpA at H
  split at H
  · rename_i n0 f n1 g h0 h1
    split at H
    · cases H
    · cases H; refine SP.u ?_; rw [h1]; exact ⟨_, rfl⟩
  · rename_i n0 f n1 g h0 h1
    split at H
    · cases H
    · cases H; refine SP.u ?_; rw [h1]; exact ⟨_, rfl⟩
  · cases H
set_option maxHeartbeats 4000000 in
theorem stp_SP {X : SX} {e : CE} {lo lo' : Lo} {st st' : List Value} {h h' : AH} {j : Option Nat} (hs : stp X e lo st h = some (.inl (j, lo', st', h'))) : SP h h' := by
  obtain ⟨pc, ln, op, a, b, w, ts⟩ := e
  unfold stp at hs
  split at hs
  all_goals first | (rename_i hh; cases hh) | skip
  · cases hs; exact SP.r
  · unfold s1 nx at hs; split at hs <;> first | (cases hs; exact SP.r) | cases hs
  · unfold s2 nx at hs; split at hs <;> first | (cases hs; exact SP.r) | cases hs
  · unfold s3 nx at hs; split at hs <;> first | (cases hs; exact SP.r) | cases hs
  · unfold s4 nx at hs; split at hs <;> first | (cases hs; exact SP.r) | cases hs
  · unfold s5 nx at hs; split at hs <;> first | (cases hs; exact SP.r) | cases hs
  · unfold s6 nx at hs; split at hs <;> first | cases hs | (split at hs <;> first | (cases hs; exact SP.r) | cases hs)
  · unfold s7 nx at hs; split at hs <;> first | (cases hs; exact SP.r) | cases hs
  · unfold s8 nx at hs; split at hs <;> first | cases hs | (split at hs <;> first | (cases hs; exact SP.r) | cases hs)
  · unfold s9 nx at hs; split at hs <;> first | (cases hs; exact SP.r) | cases hs
  · unfold s10 nx at hs; split at hs <;> first | (cases hs; exact SP.r) | cases hs
  · unfold s11 nx at hs; split at hs <;> first | (cases hs; exact SP.r) | cases hs
  · unfold s12 br at hs; split at hs <;> first | (cases hs; exact SP.r) | cases hs
  · unfold s13 br at hs; split at hs <;> first | (cases hs; exact SP.r) | cases hs
  · cases hs; exact SP.r
  · unfold s15 nx at hs; split at hs <;> first | (cases hs; exact SP.r) | cases hs
  · unfold s16 nx at hs; split at hs <;> first | (cases hs; exact SP.r) | cases hs
  · unfold s17 nx at hs; split at hs <;> first | (cases hs; exact SP.r) | cases hs
  · unfold s18 nx at hs; split at hs <;> first | cases hs | (split at hs <;> first | (cases hs; exact SP.r) | cases hs)
  · unfold s19 nx at hs
    split at hs
    · split at hs
      · split at hs
        · rename_i hp; cases hs; exact SP_pf hp
        · cases hs
      · cases hs
    · split at hs
      · rename_i hp; cases hs; exact SP_pf hp
      · cases hs
    · cases hs
  · unfold s20 nx at hs; split at hs <;> first | cases hs | (split at hs <;> first | (cases hs; exact SP.r) | cases hs)
  · unfold s21 nx at hs; split at hs <;> first | cases hs | (split at hs <;> first | (cases hs; exact SP.r) | cases hs)
  · unfold s22 nx at hs; split at hs <;> first | cases hs | (split at hs <;> first | (cases hs; exact SP.r) | cases hs)
  · unfold s23 nx at hs; split at hs <;> first | cases hs | (split at hs <;> first | (cases hs; exact SP.r) | cases hs)
  · unfold s24 nx at hs
    split at hs
    · split at hs
      · rename_i hp; cases hs; exact SP_wI hp
      · cases hs
    · cases hs
  · unfold s25 nx at hs
    split at hs
    · split at hs
      · rename_i hp; cases hs; exact SP_wJ hp
      · cases hs
    · cases hs
  · unfold s26 nx at hs
    split at hs
    · split at hs
      · rename_i hp; cases hs; exact SP_wB hp
      · cases hs
    · cases hs
  · unfold s27 nx at hs; split at hs <;> first | cases hs | (split at hs <;> first | (cases hs; exact SP.r) | cases hs)
  · unfold s28 at hs; split at hs <;> cases hs
  · unfold s29 nx at hs
    split at hs
    · split at hs
      · rename_i hp; cases hs; exact SP_cp hp
      · cases hs
    · cases hs
  · unfold s30 at hs; split at hs <;> first | cases hs | (split at hs <;> cases hs)
  · unfold s31 at hs; split at hs <;> cases hs
  · unfold s32 at hs; split at hs <;> cases hs
  · unfold s33 at hs; split at hs <;> first | (cases hs; exact SP.r) | cases hs
  · unfold s34 nx at hs; split at hs <;> first | cases hs | (split at hs <;> first | (cases hs; exact SP.r) | cases hs)
  · unfold s35 nx at hs; split at hs <;> first | cases hs | (split at hs <;> first | (cases hs; exact SP.r) | cases hs)
  · unfold s36 nx at hs; split at hs <;> first | cases hs | (split at hs <;> first | (cases hs; exact SP.r) | cases hs)
  · unfold s37 at hs
    split at hs
    · split at hs
      · split at hs
        · split at hs <;> cases hs
        · cases hs
      · cases hs
    · cases hs
  · cases hs
theorem run_SP : ∀ (n : Nat) (X : SX) (m : Nat) (c : List CE) (l : Lo) (st : List Value) (h : AH) (r : Option Value × AH), run n X m c l st h = some r → SP h r.2 := by
  intro n
  induction n with
  | zero => intro X m c l st h r hr; simp [run] at hr
  | succ n ih =>
    intro X m c l st h r hr
    cases c with
    | nil => simp [run] at hr
    | cons e c =>
      rw [run] at hr
      cases hs : stp X e l st h with
      | none => rw [hs] at hr; simp at hr
      | some o =>
        rw [hs] at hr
        rcases o with ⟨j, l', st', h'⟩ | v | ⟨k, as, st'⟩
        · exact (stp_SP hs).t (ih _ _ _ _ _ _ _ hr)
        · cases hr; exact SP.r
        · dsimp only at hr
          by_cases hg : (lg_sl as).length ≤ mxL k
          · rw [if_pos hg] at hr
            cases hc : run n none k (J k 0) (ent k as) [] h with
            | none => rw [hc] at hr; simp at hr
            | some r1 =>
              rw [hc] at hr
              exact (ih _ _ _ _ _ _ _ hc).t (ih _ _ _ _ _ _ _ hr)
          · rw [if_neg hg] at hr; simp at hr
theorem WpM_SP {k : Nat} {as : List Value} {h : AH} {Q Q' : Option Value → AH → Prop} (H : WpM k as h Q) (hq : ∀ v h', SP h h' → Q v h' → Q' v h') : WpM k as h Q' := by
  obtain ⟨hg, n, r, hr, hh⟩ := H
  exact ⟨hg, n, r, hr, hq _ _ (run_SP n _ _ _ _ _ _ _ hr) hh⟩
theorem WpM_ex {k : Nat} {as : List Value} {h : AH} {Q : Option Value → AH → Prop} (H : WpM k as h Q) : ∃ v h', Q v h' := by
  obtain ⟨hg, n, r, hr, hh⟩ := H
  exact ⟨_, _, hh⟩
/-- the kinds that the law's loop needs -/
def LK (h : AH) : Prop := h 61 = aO 99 [] ∧ (∃ fs, h 0 = aO 4 fs) ∧ ∃ fs, h 39 = aO 5 fs
theorem LK_sp {h h' : AH} (H : LK h) (hs : SP h h') : LK h' := by
  obtain ⟨h1, ⟨f1, h2⟩, f2, h3⟩ := H
  have a := hs 61
  have b := hs 0
  have c := hs 39
  rw [h1] at a
  rw [h2] at b
  rw [h3] at c
  obtain ⟨fa, ea, la⟩ := a
  obtain ⟨fb, eb, -⟩ := b
  obtain ⟨fc, ec, -⟩ := c
  have : fa = [] := List.length_eq_zero_iff.mp la
  subst this
  exact ⟨ea, ⟨fb, eb⟩, fc, ec⟩
theorem pairI {kC kM : Nat} {as : List Value} (P : Pr kC kM as) {h : AH} (hR : RR h) (hL : LK h) {Q : Option Value → AH → Prop} (K : ∀ (x : Int32) (h1 : AH), LK h1 → WpM kM (.ref 39 :: as) h1 (fun w h2 => w = some (.int x) ∧ RR h2 ∧ LK h2) → Q (some (.int x)) h1) : WpM kC (.ref 0 :: as) h Q := by
  refine WpM_SP (P h hR) (fun v h1 s1 hin => ?_)
  obtain ⟨w, h2, ⟨x, rfl, rfl⟩, -⟩ := WpM_ex hin
  refine K x h1 (LK_sp hL s1) (WpM_SP hin (fun w h2 s2 z => ?_))
  obtain ⟨⟨y, e1, e2⟩, hR2⟩ := z
  cases e1
  exact ⟨e2, hR2, LK_sp (LK_sp hL s1) s2⟩
theorem pairL {kC kM : Nat} {as : List Value} (P : PrL kC kM as) {h : AH} (hR : RR h) (hL : LK h) {Q : Option Value → AH → Prop} (K : ∀ (x : Int64) (h1 : AH), LK h1 → WpM kM (.ref 39 :: as) h1 (fun w h2 => w = some (.long x) ∧ RR h2 ∧ LK h2) → Q (some (.long x)) h1) : WpM kC (.ref 0 :: as) h Q := by
  refine WpM_SP (P h hR) (fun v h1 s1 hin => ?_)
  obtain ⟨w, h2, ⟨x, rfl, rfl⟩, -⟩ := WpM_ex hin
  refine K x h1 (LK_sp hL s1) (WpM_SP hin (fun w h2 s2 z => ?_))
  obtain ⟨⟨y, e1, e2⟩, hR2⟩ := z
  cases e1
  exact ⟨e2, hR2, LK_sp (LK_sp hL s1) s2⟩
theorem rIs {L : Nat} {xs : Nat → Int32} {k : Nat} {K : Int32 → Prop} (hk : k < L) (hL : L ≤ 3072) : rIc (some (L, xs)) (aO 99 []) 61 (nI k) K = K (xs k) := by
  have e : (nI k).toNatClampNeg = k := by show (nI k).toInt.toNat = k; rw [nI_toInt (by omega)]; omega
  have n : ¬ (nI k < 0 ∨ L ≤ (nI k).toNatClampNeg) := by
    rw [e, fa_lt, nI_toInt (by omega)]
    have : (0 : Int32).toInt = 0 := rfl
    omega
  show (if (61 : Nat) = 61 then if nI k < 0 ∨ L ≤ (nI k).toNatClampNeg then False else K (xs (nI k).toNatClampNeg) else False) = K (xs k)
  rw [if_pos rfl, if_neg n, e]
theorem lls {L : Nat} {xs : Nat → Int32} {K : Nat → Prop} : lnc (some (L, xs)) (aO 99 []) 61 K = K L := by
  show (if (61 : Nat) = 61 then K L else False) = K L
  rw [if_pos rfl]
theorem lpz_c {L i : Nat} (hL : L ≤ 3072) (hi : i ≤ 4000) : (Int32.ofNat L - 6 < nI i) = (L < i + 6) := by
  apply propext
  have z6 : (6 : Int32).toInt = 6 := rfl
  have zL : (Int32.ofNat L).toInt = L := nI_toInt (by omega)
  rw [fa_lt, fb_subI (by omega) (by omega), nI_toInt (by omega), zL, z6]
  omega
theorem nI_k (a b : Nat) : nI a + nI b = nI (a + b) := nI_add a b
theorem lpz_house {h : AH} {Q : Option Value → AH → Prop} {L i : Nat} {xs : Nat → Int32} (hL : L ≤ 3072) (hi : i + 6 ≤ L) (hR : RR h) (hK : LK h) (K : ∀ h2, RR h2 → LK h2 → Wp (some (L, xs)) 144 qL_law_1190 [some (.ref 61), some (.ref 0), some (.ref 39), some (.int (nI i))] [] h2 Q) : Wp (some (L, xs)) 144 qL_law_160 [some (.ref 61), some (.ref 0), some (.ref 39), some (.int (nI i))] [] h Q := by
  obtain ⟨k61, ⟨f0, k0⟩, f39, k39⟩ := id hK
  have e1 : nI i + 1 = nI (i + 1) := nI_add i 1
  have e2 : nI i + 2 = nI (i + 2) := nI_add i 2
  have e3 : nI i + 3 = nI (i + 3) := nI_add i 3
  have e4 : nI i + 4 = nI (i + 4) := nI_add i 4
  have e5 : nI i + 5 = nI (i + 5) := nI_add i 5
  have r1 := fun (K : Int32 → Prop) => rIs (xs := xs) (K := K) (show i + 1 < L by omega) hL
  have r2 := fun (K : Int32 → Prop) => rIs (xs := xs) (K := K) (show i + 2 < L by omega) hL
  have r3 := fun (K : Int32 → Prop) => rIs (xs := xs) (K := K) (show i + 3 < L by omega) hL
  have r4 := fun (K : Int32 → Prop) => rIs (xs := xs) (K := K) (show i + 4 < L by omega) hL
  have r5 := fun (K : Int32 → Prop) => rIs (xs := xs) (K := K) (show i + 5 < L by omega) hL
  rw [qL_law_160]
  simp only [w0, w1, w2i, w2r, w3, w4, w5_0, w5_1, w5_2, w5_3, w5_4, w5_5, w5_6, w5_7, w5_8, w6_0, w6_1, w7_0, w7_1, w7_2, w7_3, w7_4, w7_5, w8_0, w8_1, w9_0, w9_1, w9_2, w10_0, w10_1, w10_2, w10_3, w10_4, w10_5, w11, w12_0, w12_1, w12_2, w12_3, w12_4, w12_5, w13_0, w13_1, w13_2, w13_3, w13_4, w13_5, w14, w15i, w15r, w16, w17, w18, w19i, w19z, w19l, w20, w21, w22, w23, w24, w25, w26, w27, w28_1, w28_2, w28_3, w28_4, w28_5, w28_6, w29, w30i, w30z, w31, w32, w33, w34, w35, w36, w37_1, w37_2, w37_3, w37_4, w37_5, w37_6, isO_O, set1_0, set1_1i, set1_1r, set1_1n, set1_1l, set1_s, set2_0, set2_1i, set2_1r, set2_1n, set2_1l, set2_s, ldv_i, ldv_l, ldv_r, ldv_s, ldi_i, ldi_s, fK_0, fK_s, gfc_O, fS_0, fS_s, uH_s, uH_n, uH_u, tl_s, tl_n, b1_0, b1_1, ite_true, ite_false, if_true, if_false, List.length_nil, List.length_cons, Nat.zero_le, Nat.zero_add, Nat.reduceAdd, Nat.reduceLeDiff, Nat.reduceLT, Nat.reduceEqDiff, Nat.reduceMul, Nat.add_left_cancel_iff, not_false_eq_true, k61, k0, e1, e2, e3, e4, e5, r1, r2, r3, r4, r5]
  refine pairI (P_house (xs (i + 1)) (xs (i + 2))) hR hK (fun x h1 hK1 hin => ?_)
  obtain ⟨m61, ⟨g0, m0⟩, g39, m39⟩ := id hK1
  simp only [w0, w1, w2i, w2r, w3, w4, w5_0, w5_1, w5_2, w5_3, w5_4, w5_5, w5_6, w5_7, w5_8, w6_0, w6_1, w7_0, w7_1, w7_2, w7_3, w7_4, w7_5, w8_0, w8_1, w9_0, w9_1, w9_2, w10_0, w10_1, w10_2, w10_3, w10_4, w10_5, w11, w12_0, w12_1, w12_2, w12_3, w12_4, w12_5, w13_0, w13_1, w13_2, w13_3, w13_4, w13_5, w14, w15i, w15r, w16, w17, w18, w19i, w19z, w19l, w20, w21, w22, w23, w24, w25, w26, w27, w28_1, w28_2, w28_3, w28_4, w28_5, w28_6, w29, w30i, w30z, w31, w32, w33, w34, w35, w36, w37_1, w37_2, w37_3, w37_4, w37_5, w37_6, isO_O, set1_0, set1_1i, set1_1r, set1_1n, set1_1l, set1_s, set2_0, set2_1i, set2_1r, set2_1n, set2_1l, set2_s, ldv_i, ldv_l, ldv_r, ldv_s, ldi_i, ldi_s, fK_0, fK_s, gfc_O, fS_0, fS_s, uH_s, uH_n, uH_u, tl_s, tl_n, b1_0, b1_1, ite_true, ite_false, if_true, if_false, List.length_nil, List.length_cons, Nat.zero_le, Nat.zero_add, Nat.reduceAdd, Nat.reduceLeDiff, Nat.reduceLT, Nat.reduceEqDiff, Nat.reduceMul, Nat.add_left_cancel_iff, not_false_eq_true, m61, m39, e1, e2, e3, e4, e5, r1, r2, r3, r4, r5]
  refine WpM_SP hin (fun w h2 _ z => ?_)
  obtain ⟨rfl, hR2, hK2⟩ := z
  simp only [jL_law_1190, w0, w1, w2i, w2r, w3, w4, w5_0, w5_1, w5_2, w5_3, w5_4, w5_5, w5_6, w5_7, w5_8, w6_0, w6_1, w7_0, w7_1, w7_2, w7_3, w7_4, w7_5, w8_0, w8_1, w9_0, w9_1, w9_2, w10_0, w10_1, w10_2, w10_3, w10_4, w10_5, w11, w12_0, w12_1, w12_2, w12_3, w12_4, w12_5, w13_0, w13_1, w13_2, w13_3, w13_4, w13_5, w14, w15i, w15r, w16, w17, w18, w19i, w19z, w19l, w20, w21, w22, w23, w24, w25, w26, w27, w28_1, w28_2, w28_3, w28_4, w28_5, w28_6, w29, w30i, w30z, w31, w32, w33, w34, w35, w36, w37_1, w37_2, w37_3, w37_4, w37_5, w37_6, isO_O, set1_0, set1_1i, set1_1r, set1_1n, set1_1l, set1_s, set2_0, set2_1i, set2_1r, set2_1n, set2_1l, set2_s, ldv_i, ldv_l, ldv_r, ldv_s, ldi_i, ldi_s, fK_0, fK_s, gfc_O, fS_0, fS_s, uH_s, uH_n, uH_u, tl_s, tl_n, b1_0, b1_1, ite_true, ite_false, if_true, if_false, List.length_nil, List.length_cons, Nat.zero_le, Nat.zero_add, Nat.reduceAdd, Nat.reduceLeDiff, Nat.reduceLT, Nat.reduceEqDiff, Nat.reduceMul, Nat.add_left_cancel_iff, not_false_eq_true, if_true]
  exact K h2 hR2 hK2
theorem lpz_share {h : AH} {Q : Option Value → AH → Prop} {L i : Nat} {xs : Nat → Int32} (hL : L ≤ 3072) (hi : i + 6 ≤ L) (hR : RR h) (hK : LK h) (K : ∀ h2, RR h2 → LK h2 → Wp (some (L, xs)) 144 qL_law_1190 [some (.ref 61), some (.ref 0), some (.ref 39), some (.int (nI i))] [] h2 Q) : Wp (some (L, xs)) 144 qL_law_193 [some (.ref 61), some (.ref 0), some (.ref 39), some (.int (nI i))] [] h Q := by
  obtain ⟨k61, ⟨f0, k0⟩, f39, k39⟩ := id hK
  have e1 : nI i + 1 = nI (i + 1) := nI_add i 1
  have e2 : nI i + 2 = nI (i + 2) := nI_add i 2
  have e3 : nI i + 3 = nI (i + 3) := nI_add i 3
  have e4 : nI i + 4 = nI (i + 4) := nI_add i 4
  have e5 : nI i + 5 = nI (i + 5) := nI_add i 5
  have r1 := fun (K : Int32 → Prop) => rIs (xs := xs) (K := K) (show i + 1 < L by omega) hL
  have r2 := fun (K : Int32 → Prop) => rIs (xs := xs) (K := K) (show i + 2 < L by omega) hL
  have r3 := fun (K : Int32 → Prop) => rIs (xs := xs) (K := K) (show i + 3 < L by omega) hL
  have r4 := fun (K : Int32 → Prop) => rIs (xs := xs) (K := K) (show i + 4 < L by omega) hL
  have r5 := fun (K : Int32 → Prop) => rIs (xs := xs) (K := K) (show i + 5 < L by omega) hL
  rw [qL_law_193]
  simp only [w0, w1, w2i, w2r, w3, w4, w5_0, w5_1, w5_2, w5_3, w5_4, w5_5, w5_6, w5_7, w5_8, w6_0, w6_1, w7_0, w7_1, w7_2, w7_3, w7_4, w7_5, w8_0, w8_1, w9_0, w9_1, w9_2, w10_0, w10_1, w10_2, w10_3, w10_4, w10_5, w11, w12_0, w12_1, w12_2, w12_3, w12_4, w12_5, w13_0, w13_1, w13_2, w13_3, w13_4, w13_5, w14, w15i, w15r, w16, w17, w18, w19i, w19z, w19l, w20, w21, w22, w23, w24, w25, w26, w27, w28_1, w28_2, w28_3, w28_4, w28_5, w28_6, w29, w30i, w30z, w31, w32, w33, w34, w35, w36, w37_1, w37_2, w37_3, w37_4, w37_5, w37_6, isO_O, set1_0, set1_1i, set1_1r, set1_1n, set1_1l, set1_s, set2_0, set2_1i, set2_1r, set2_1n, set2_1l, set2_s, ldv_i, ldv_l, ldv_r, ldv_s, ldi_i, ldi_s, fK_0, fK_s, gfc_O, fS_0, fS_s, uH_s, uH_n, uH_u, tl_s, tl_n, b1_0, b1_1, ite_true, ite_false, if_true, if_false, List.length_nil, List.length_cons, Nat.zero_le, Nat.zero_add, Nat.reduceAdd, Nat.reduceLeDiff, Nat.reduceLT, Nat.reduceEqDiff, Nat.reduceMul, Nat.add_left_cancel_iff, not_false_eq_true, k61, k0, e1, e2, e3, e4, e5, r1, r2, r3, r4, r5]
  refine pairI (P_share (xs (i + 1)) (xs (i + 2)) (xs (i + 3))) hR hK (fun x h1 hK1 hin => ?_)
  obtain ⟨m61, ⟨g0, m0⟩, g39, m39⟩ := id hK1
  simp only [w0, w1, w2i, w2r, w3, w4, w5_0, w5_1, w5_2, w5_3, w5_4, w5_5, w5_6, w5_7, w5_8, w6_0, w6_1, w7_0, w7_1, w7_2, w7_3, w7_4, w7_5, w8_0, w8_1, w9_0, w9_1, w9_2, w10_0, w10_1, w10_2, w10_3, w10_4, w10_5, w11, w12_0, w12_1, w12_2, w12_3, w12_4, w12_5, w13_0, w13_1, w13_2, w13_3, w13_4, w13_5, w14, w15i, w15r, w16, w17, w18, w19i, w19z, w19l, w20, w21, w22, w23, w24, w25, w26, w27, w28_1, w28_2, w28_3, w28_4, w28_5, w28_6, w29, w30i, w30z, w31, w32, w33, w34, w35, w36, w37_1, w37_2, w37_3, w37_4, w37_5, w37_6, isO_O, set1_0, set1_1i, set1_1r, set1_1n, set1_1l, set1_s, set2_0, set2_1i, set2_1r, set2_1n, set2_1l, set2_s, ldv_i, ldv_l, ldv_r, ldv_s, ldi_i, ldi_s, fK_0, fK_s, gfc_O, fS_0, fS_s, uH_s, uH_n, uH_u, tl_s, tl_n, b1_0, b1_1, ite_true, ite_false, if_true, if_false, List.length_nil, List.length_cons, Nat.zero_le, Nat.zero_add, Nat.reduceAdd, Nat.reduceLeDiff, Nat.reduceLT, Nat.reduceEqDiff, Nat.reduceMul, Nat.add_left_cancel_iff, not_false_eq_true, m61, m39, e1, e2, e3, e4, e5, r1, r2, r3, r4, r5]
  refine WpM_SP hin (fun w h2 _ z => ?_)
  obtain ⟨rfl, hR2, hK2⟩ := z
  simp only [jL_law_1190, w0, w1, w2i, w2r, w3, w4, w5_0, w5_1, w5_2, w5_3, w5_4, w5_5, w5_6, w5_7, w5_8, w6_0, w6_1, w7_0, w7_1, w7_2, w7_3, w7_4, w7_5, w8_0, w8_1, w9_0, w9_1, w9_2, w10_0, w10_1, w10_2, w10_3, w10_4, w10_5, w11, w12_0, w12_1, w12_2, w12_3, w12_4, w12_5, w13_0, w13_1, w13_2, w13_3, w13_4, w13_5, w14, w15i, w15r, w16, w17, w18, w19i, w19z, w19l, w20, w21, w22, w23, w24, w25, w26, w27, w28_1, w28_2, w28_3, w28_4, w28_5, w28_6, w29, w30i, w30z, w31, w32, w33, w34, w35, w36, w37_1, w37_2, w37_3, w37_4, w37_5, w37_6, isO_O, set1_0, set1_1i, set1_1r, set1_1n, set1_1l, set1_s, set2_0, set2_1i, set2_1r, set2_1n, set2_1l, set2_s, ldv_i, ldv_l, ldv_r, ldv_s, ldi_i, ldi_s, fK_0, fK_s, gfc_O, fS_0, fS_s, uH_s, uH_n, uH_u, tl_s, tl_n, b1_0, b1_1, ite_true, ite_false, if_true, if_false, List.length_nil, List.length_cons, Nat.zero_le, Nat.zero_add, Nat.reduceAdd, Nat.reduceLeDiff, Nat.reduceLT, Nat.reduceEqDiff, Nat.reduceMul, Nat.add_left_cancel_iff, not_false_eq_true, if_true]
  exact K h2 hR2 hK2
theorem lpz_ask {h : AH} {Q : Option Value → AH → Prop} {L i : Nat} {xs : Nat → Int32} (hL : L ≤ 3072) (hi : i + 6 ≤ L) (hR : RR h) (hK : LK h) (K : ∀ h2, RR h2 → LK h2 → Wp (some (L, xs)) 144 qL_law_1190 [some (.ref 61), some (.ref 0), some (.ref 39), some (.int (nI i))] [] h2 Q) : Wp (some (L, xs)) 144 qL_law_236 [some (.ref 61), some (.ref 0), some (.ref 39), some (.int (nI i))] [] h Q := by
  obtain ⟨k61, ⟨f0, k0⟩, f39, k39⟩ := id hK
  have e1 : nI i + 1 = nI (i + 1) := nI_add i 1
  have e2 : nI i + 2 = nI (i + 2) := nI_add i 2
  have e3 : nI i + 3 = nI (i + 3) := nI_add i 3
  have e4 : nI i + 4 = nI (i + 4) := nI_add i 4
  have e5 : nI i + 5 = nI (i + 5) := nI_add i 5
  have r1 := fun (K : Int32 → Prop) => rIs (xs := xs) (K := K) (show i + 1 < L by omega) hL
  have r2 := fun (K : Int32 → Prop) => rIs (xs := xs) (K := K) (show i + 2 < L by omega) hL
  have r3 := fun (K : Int32 → Prop) => rIs (xs := xs) (K := K) (show i + 3 < L by omega) hL
  have r4 := fun (K : Int32 → Prop) => rIs (xs := xs) (K := K) (show i + 4 < L by omega) hL
  have r5 := fun (K : Int32 → Prop) => rIs (xs := xs) (K := K) (show i + 5 < L by omega) hL
  rw [qL_law_236]
  simp only [w0, w1, w2i, w2r, w3, w4, w5_0, w5_1, w5_2, w5_3, w5_4, w5_5, w5_6, w5_7, w5_8, w6_0, w6_1, w7_0, w7_1, w7_2, w7_3, w7_4, w7_5, w8_0, w8_1, w9_0, w9_1, w9_2, w10_0, w10_1, w10_2, w10_3, w10_4, w10_5, w11, w12_0, w12_1, w12_2, w12_3, w12_4, w12_5, w13_0, w13_1, w13_2, w13_3, w13_4, w13_5, w14, w15i, w15r, w16, w17, w18, w19i, w19z, w19l, w20, w21, w22, w23, w24, w25, w26, w27, w28_1, w28_2, w28_3, w28_4, w28_5, w28_6, w29, w30i, w30z, w31, w32, w33, w34, w35, w36, w37_1, w37_2, w37_3, w37_4, w37_5, w37_6, isO_O, set1_0, set1_1i, set1_1r, set1_1n, set1_1l, set1_s, set2_0, set2_1i, set2_1r, set2_1n, set2_1l, set2_s, ldv_i, ldv_l, ldv_r, ldv_s, ldi_i, ldi_s, fK_0, fK_s, gfc_O, fS_0, fS_s, uH_s, uH_n, uH_u, tl_s, tl_n, b1_0, b1_1, ite_true, ite_false, if_true, if_false, List.length_nil, List.length_cons, Nat.zero_le, Nat.zero_add, Nat.reduceAdd, Nat.reduceLeDiff, Nat.reduceLT, Nat.reduceEqDiff, Nat.reduceMul, Nat.add_left_cancel_iff, not_false_eq_true, k61, k0, e1, e2, e3, e4, e5, r1, r2, r3, r4, r5]
  refine pairI (P_ask (xs (i + 1)) (xs (i + 2))) hR hK (fun x h1 hK1 hin => ?_)
  obtain ⟨m61, ⟨g0, m0⟩, g39, m39⟩ := id hK1
  simp only [w0, w1, w2i, w2r, w3, w4, w5_0, w5_1, w5_2, w5_3, w5_4, w5_5, w5_6, w5_7, w5_8, w6_0, w6_1, w7_0, w7_1, w7_2, w7_3, w7_4, w7_5, w8_0, w8_1, w9_0, w9_1, w9_2, w10_0, w10_1, w10_2, w10_3, w10_4, w10_5, w11, w12_0, w12_1, w12_2, w12_3, w12_4, w12_5, w13_0, w13_1, w13_2, w13_3, w13_4, w13_5, w14, w15i, w15r, w16, w17, w18, w19i, w19z, w19l, w20, w21, w22, w23, w24, w25, w26, w27, w28_1, w28_2, w28_3, w28_4, w28_5, w28_6, w29, w30i, w30z, w31, w32, w33, w34, w35, w36, w37_1, w37_2, w37_3, w37_4, w37_5, w37_6, isO_O, set1_0, set1_1i, set1_1r, set1_1n, set1_1l, set1_s, set2_0, set2_1i, set2_1r, set2_1n, set2_1l, set2_s, ldv_i, ldv_l, ldv_r, ldv_s, ldi_i, ldi_s, fK_0, fK_s, gfc_O, fS_0, fS_s, uH_s, uH_n, uH_u, tl_s, tl_n, b1_0, b1_1, ite_true, ite_false, if_true, if_false, List.length_nil, List.length_cons, Nat.zero_le, Nat.zero_add, Nat.reduceAdd, Nat.reduceLeDiff, Nat.reduceLT, Nat.reduceEqDiff, Nat.reduceMul, Nat.add_left_cancel_iff, not_false_eq_true, m61, m39, e1, e2, e3, e4, e5, r1, r2, r3, r4, r5]
  refine WpM_SP hin (fun w h2 _ z => ?_)
  obtain ⟨rfl, hR2, hK2⟩ := z
  simp only [jL_law_1190, w0, w1, w2i, w2r, w3, w4, w5_0, w5_1, w5_2, w5_3, w5_4, w5_5, w5_6, w5_7, w5_8, w6_0, w6_1, w7_0, w7_1, w7_2, w7_3, w7_4, w7_5, w8_0, w8_1, w9_0, w9_1, w9_2, w10_0, w10_1, w10_2, w10_3, w10_4, w10_5, w11, w12_0, w12_1, w12_2, w12_3, w12_4, w12_5, w13_0, w13_1, w13_2, w13_3, w13_4, w13_5, w14, w15i, w15r, w16, w17, w18, w19i, w19z, w19l, w20, w21, w22, w23, w24, w25, w26, w27, w28_1, w28_2, w28_3, w28_4, w28_5, w28_6, w29, w30i, w30z, w31, w32, w33, w34, w35, w36, w37_1, w37_2, w37_3, w37_4, w37_5, w37_6, isO_O, set1_0, set1_1i, set1_1r, set1_1n, set1_1l, set1_s, set2_0, set2_1i, set2_1r, set2_1n, set2_1l, set2_s, ldv_i, ldv_l, ldv_r, ldv_s, ldi_i, ldi_s, fK_0, fK_s, gfc_O, fS_0, fS_s, uH_s, uH_n, uH_u, tl_s, tl_n, b1_0, b1_1, ite_true, ite_false, if_true, if_false, List.length_nil, List.length_cons, Nat.zero_le, Nat.zero_add, Nat.reduceAdd, Nat.reduceLeDiff, Nat.reduceLT, Nat.reduceEqDiff, Nat.reduceMul, Nat.add_left_cancel_iff, not_false_eq_true, if_true]
  exact K h2 hR2 hK2
theorem lpz_set {h : AH} {Q : Option Value → AH → Prop} {L i : Nat} {xs : Nat → Int32} (hL : L ≤ 3072) (hi : i + 6 ≤ L) (hR : RR h) (hK : LK h) (K : ∀ h2, RR h2 → LK h2 → Wp (some (L, xs)) 144 qL_law_1190 [some (.ref 61), some (.ref 0), some (.ref 39), some (.int (nI i))] [] h2 Q) : Wp (some (L, xs)) 144 qL_law_269 [some (.ref 61), some (.ref 0), some (.ref 39), some (.int (nI i))] [] h Q := by
  obtain ⟨k61, ⟨f0, k0⟩, f39, k39⟩ := id hK
  have e1 : nI i + 1 = nI (i + 1) := nI_add i 1
  have e2 : nI i + 2 = nI (i + 2) := nI_add i 2
  have e3 : nI i + 3 = nI (i + 3) := nI_add i 3
  have e4 : nI i + 4 = nI (i + 4) := nI_add i 4
  have e5 : nI i + 5 = nI (i + 5) := nI_add i 5
  have r1 := fun (K : Int32 → Prop) => rIs (xs := xs) (K := K) (show i + 1 < L by omega) hL
  have r2 := fun (K : Int32 → Prop) => rIs (xs := xs) (K := K) (show i + 2 < L by omega) hL
  have r3 := fun (K : Int32 → Prop) => rIs (xs := xs) (K := K) (show i + 3 < L by omega) hL
  have r4 := fun (K : Int32 → Prop) => rIs (xs := xs) (K := K) (show i + 4 < L by omega) hL
  have r5 := fun (K : Int32 → Prop) => rIs (xs := xs) (K := K) (show i + 5 < L by omega) hL
  rw [qL_law_269]
  simp only [w0, w1, w2i, w2r, w3, w4, w5_0, w5_1, w5_2, w5_3, w5_4, w5_5, w5_6, w5_7, w5_8, w6_0, w6_1, w7_0, w7_1, w7_2, w7_3, w7_4, w7_5, w8_0, w8_1, w9_0, w9_1, w9_2, w10_0, w10_1, w10_2, w10_3, w10_4, w10_5, w11, w12_0, w12_1, w12_2, w12_3, w12_4, w12_5, w13_0, w13_1, w13_2, w13_3, w13_4, w13_5, w14, w15i, w15r, w16, w17, w18, w19i, w19z, w19l, w20, w21, w22, w23, w24, w25, w26, w27, w28_1, w28_2, w28_3, w28_4, w28_5, w28_6, w29, w30i, w30z, w31, w32, w33, w34, w35, w36, w37_1, w37_2, w37_3, w37_4, w37_5, w37_6, isO_O, set1_0, set1_1i, set1_1r, set1_1n, set1_1l, set1_s, set2_0, set2_1i, set2_1r, set2_1n, set2_1l, set2_s, ldv_i, ldv_l, ldv_r, ldv_s, ldi_i, ldi_s, fK_0, fK_s, gfc_O, fS_0, fS_s, uH_s, uH_n, uH_u, tl_s, tl_n, b1_0, b1_1, ite_true, ite_false, if_true, if_false, List.length_nil, List.length_cons, Nat.zero_le, Nat.zero_add, Nat.reduceAdd, Nat.reduceLeDiff, Nat.reduceLT, Nat.reduceEqDiff, Nat.reduceMul, Nat.add_left_cancel_iff, not_false_eq_true, k61, k0, e1, e2, e3, e4, e5, r1, r2, r3, r4, r5]
  refine pairI (P_set (xs (i + 1)) (xs (i + 2)) (xs (i + 3))) hR hK (fun x h1 hK1 hin => ?_)
  obtain ⟨m61, ⟨g0, m0⟩, g39, m39⟩ := id hK1
  simp only [w0, w1, w2i, w2r, w3, w4, w5_0, w5_1, w5_2, w5_3, w5_4, w5_5, w5_6, w5_7, w5_8, w6_0, w6_1, w7_0, w7_1, w7_2, w7_3, w7_4, w7_5, w8_0, w8_1, w9_0, w9_1, w9_2, w10_0, w10_1, w10_2, w10_3, w10_4, w10_5, w11, w12_0, w12_1, w12_2, w12_3, w12_4, w12_5, w13_0, w13_1, w13_2, w13_3, w13_4, w13_5, w14, w15i, w15r, w16, w17, w18, w19i, w19z, w19l, w20, w21, w22, w23, w24, w25, w26, w27, w28_1, w28_2, w28_3, w28_4, w28_5, w28_6, w29, w30i, w30z, w31, w32, w33, w34, w35, w36, w37_1, w37_2, w37_3, w37_4, w37_5, w37_6, isO_O, set1_0, set1_1i, set1_1r, set1_1n, set1_1l, set1_s, set2_0, set2_1i, set2_1r, set2_1n, set2_1l, set2_s, ldv_i, ldv_l, ldv_r, ldv_s, ldi_i, ldi_s, fK_0, fK_s, gfc_O, fS_0, fS_s, uH_s, uH_n, uH_u, tl_s, tl_n, b1_0, b1_1, ite_true, ite_false, if_true, if_false, List.length_nil, List.length_cons, Nat.zero_le, Nat.zero_add, Nat.reduceAdd, Nat.reduceLeDiff, Nat.reduceLT, Nat.reduceEqDiff, Nat.reduceMul, Nat.add_left_cancel_iff, not_false_eq_true, m61, m39, e1, e2, e3, e4, e5, r1, r2, r3, r4, r5]
  refine WpM_SP hin (fun w h2 _ z => ?_)
  obtain ⟨rfl, hR2, hK2⟩ := z
  simp only [jL_law_1190, w0, w1, w2i, w2r, w3, w4, w5_0, w5_1, w5_2, w5_3, w5_4, w5_5, w5_6, w5_7, w5_8, w6_0, w6_1, w7_0, w7_1, w7_2, w7_3, w7_4, w7_5, w8_0, w8_1, w9_0, w9_1, w9_2, w10_0, w10_1, w10_2, w10_3, w10_4, w10_5, w11, w12_0, w12_1, w12_2, w12_3, w12_4, w12_5, w13_0, w13_1, w13_2, w13_3, w13_4, w13_5, w14, w15i, w15r, w16, w17, w18, w19i, w19z, w19l, w20, w21, w22, w23, w24, w25, w26, w27, w28_1, w28_2, w28_3, w28_4, w28_5, w28_6, w29, w30i, w30z, w31, w32, w33, w34, w35, w36, w37_1, w37_2, w37_3, w37_4, w37_5, w37_6, isO_O, set1_0, set1_1i, set1_1r, set1_1n, set1_1l, set1_s, set2_0, set2_1i, set2_1r, set2_1n, set2_1l, set2_s, ldv_i, ldv_l, ldv_r, ldv_s, ldi_i, ldi_s, fK_0, fK_s, gfc_O, fS_0, fS_s, uH_s, uH_n, uH_u, tl_s, tl_n, b1_0, b1_1, ite_true, ite_false, if_true, if_false, List.length_nil, List.length_cons, Nat.zero_le, Nat.zero_add, Nat.reduceAdd, Nat.reduceLeDiff, Nat.reduceLT, Nat.reduceEqDiff, Nat.reduceMul, Nat.add_left_cancel_iff, not_false_eq_true, if_true]
  exact K h2 hR2 hK2
theorem lpz_purse {h : AH} {Q : Option Value → AH → Prop} {L i : Nat} {xs : Nat → Int32} (hL : L ≤ 3072) (hi : i + 6 ≤ L) (hR : RR h) (hK : LK h) (K : ∀ h2, RR h2 → LK h2 → Wp (some (L, xs)) 144 qL_law_1190 [some (.ref 61), some (.ref 0), some (.ref 39), some (.int (nI i))] [] h2 Q) : Wp (some (L, xs)) 144 qL_law_312 [some (.ref 61), some (.ref 0), some (.ref 39), some (.int (nI i))] [] h Q := by
  obtain ⟨k61, ⟨f0, k0⟩, f39, k39⟩ := id hK
  have e1 : nI i + 1 = nI (i + 1) := nI_add i 1
  have e2 : nI i + 2 = nI (i + 2) := nI_add i 2
  have e3 : nI i + 3 = nI (i + 3) := nI_add i 3
  have e4 : nI i + 4 = nI (i + 4) := nI_add i 4
  have e5 : nI i + 5 = nI (i + 5) := nI_add i 5
  have r1 := fun (K : Int32 → Prop) => rIs (xs := xs) (K := K) (show i + 1 < L by omega) hL
  have r2 := fun (K : Int32 → Prop) => rIs (xs := xs) (K := K) (show i + 2 < L by omega) hL
  have r3 := fun (K : Int32 → Prop) => rIs (xs := xs) (K := K) (show i + 3 < L by omega) hL
  have r4 := fun (K : Int32 → Prop) => rIs (xs := xs) (K := K) (show i + 4 < L by omega) hL
  have r5 := fun (K : Int32 → Prop) => rIs (xs := xs) (K := K) (show i + 5 < L by omega) hL
  rw [qL_law_312]
  simp only [w0, w1, w2i, w2r, w3, w4, w5_0, w5_1, w5_2, w5_3, w5_4, w5_5, w5_6, w5_7, w5_8, w6_0, w6_1, w7_0, w7_1, w7_2, w7_3, w7_4, w7_5, w8_0, w8_1, w9_0, w9_1, w9_2, w10_0, w10_1, w10_2, w10_3, w10_4, w10_5, w11, w12_0, w12_1, w12_2, w12_3, w12_4, w12_5, w13_0, w13_1, w13_2, w13_3, w13_4, w13_5, w14, w15i, w15r, w16, w17, w18, w19i, w19z, w19l, w20, w21, w22, w23, w24, w25, w26, w27, w28_1, w28_2, w28_3, w28_4, w28_5, w28_6, w29, w30i, w30z, w31, w32, w33, w34, w35, w36, w37_1, w37_2, w37_3, w37_4, w37_5, w37_6, isO_O, set1_0, set1_1i, set1_1r, set1_1n, set1_1l, set1_s, set2_0, set2_1i, set2_1r, set2_1n, set2_1l, set2_s, ldv_i, ldv_l, ldv_r, ldv_s, ldi_i, ldi_s, fK_0, fK_s, gfc_O, fS_0, fS_s, uH_s, uH_n, uH_u, tl_s, tl_n, b1_0, b1_1, ite_true, ite_false, if_true, if_false, List.length_nil, List.length_cons, Nat.zero_le, Nat.zero_add, Nat.reduceAdd, Nat.reduceLeDiff, Nat.reduceLT, Nat.reduceEqDiff, Nat.reduceMul, Nat.add_left_cancel_iff, not_false_eq_true, k61, k0, e1, e2, e3, e4, e5, r1, r2, r3, r4, r5]
  refine pairI (P_purse (xs (i + 1))) hR hK (fun x h1 hK1 hin => ?_)
  obtain ⟨m61, ⟨g0, m0⟩, g39, m39⟩ := id hK1
  simp only [w0, w1, w2i, w2r, w3, w4, w5_0, w5_1, w5_2, w5_3, w5_4, w5_5, w5_6, w5_7, w5_8, w6_0, w6_1, w7_0, w7_1, w7_2, w7_3, w7_4, w7_5, w8_0, w8_1, w9_0, w9_1, w9_2, w10_0, w10_1, w10_2, w10_3, w10_4, w10_5, w11, w12_0, w12_1, w12_2, w12_3, w12_4, w12_5, w13_0, w13_1, w13_2, w13_3, w13_4, w13_5, w14, w15i, w15r, w16, w17, w18, w19i, w19z, w19l, w20, w21, w22, w23, w24, w25, w26, w27, w28_1, w28_2, w28_3, w28_4, w28_5, w28_6, w29, w30i, w30z, w31, w32, w33, w34, w35, w36, w37_1, w37_2, w37_3, w37_4, w37_5, w37_6, isO_O, set1_0, set1_1i, set1_1r, set1_1n, set1_1l, set1_s, set2_0, set2_1i, set2_1r, set2_1n, set2_1l, set2_s, ldv_i, ldv_l, ldv_r, ldv_s, ldi_i, ldi_s, fK_0, fK_s, gfc_O, fS_0, fS_s, uH_s, uH_n, uH_u, tl_s, tl_n, b1_0, b1_1, ite_true, ite_false, if_true, if_false, List.length_nil, List.length_cons, Nat.zero_le, Nat.zero_add, Nat.reduceAdd, Nat.reduceLeDiff, Nat.reduceLT, Nat.reduceEqDiff, Nat.reduceMul, Nat.add_left_cancel_iff, not_false_eq_true, m61, m39, e1, e2, e3, e4, e5, r1, r2, r3, r4, r5]
  refine WpM_SP hin (fun w h2 _ z => ?_)
  obtain ⟨rfl, hR2, hK2⟩ := z
  simp only [jL_law_1190, w0, w1, w2i, w2r, w3, w4, w5_0, w5_1, w5_2, w5_3, w5_4, w5_5, w5_6, w5_7, w5_8, w6_0, w6_1, w7_0, w7_1, w7_2, w7_3, w7_4, w7_5, w8_0, w8_1, w9_0, w9_1, w9_2, w10_0, w10_1, w10_2, w10_3, w10_4, w10_5, w11, w12_0, w12_1, w12_2, w12_3, w12_4, w12_5, w13_0, w13_1, w13_2, w13_3, w13_4, w13_5, w14, w15i, w15r, w16, w17, w18, w19i, w19z, w19l, w20, w21, w22, w23, w24, w25, w26, w27, w28_1, w28_2, w28_3, w28_4, w28_5, w28_6, w29, w30i, w30z, w31, w32, w33, w34, w35, w36, w37_1, w37_2, w37_3, w37_4, w37_5, w37_6, isO_O, set1_0, set1_1i, set1_1r, set1_1n, set1_1l, set1_s, set2_0, set2_1i, set2_1r, set2_1n, set2_1l, set2_s, ldv_i, ldv_l, ldv_r, ldv_s, ldi_i, ldi_s, fK_0, fK_s, gfc_O, fS_0, fS_s, uH_s, uH_n, uH_u, tl_s, tl_n, b1_0, b1_1, ite_true, ite_false, if_true, if_false, List.length_nil, List.length_cons, Nat.zero_le, Nat.zero_add, Nat.reduceAdd, Nat.reduceLeDiff, Nat.reduceLT, Nat.reduceEqDiff, Nat.reduceMul, Nat.add_left_cancel_iff, not_false_eq_true, if_true]
  exact K h2 hR2 hK2
theorem lpz_told {h : AH} {Q : Option Value → AH → Prop} {L i : Nat} {xs : Nat → Int32} (hL : L ≤ 3072) (hi : i + 6 ≤ L) (hR : RR h) (hK : LK h) (K : ∀ h2, RR h2 → LK h2 → Wp (some (L, xs)) 144 qL_law_1190 [some (.ref 61), some (.ref 0), some (.ref 39), some (.int (nI i))] [] h2 Q) : Wp (some (L, xs)) 144 qL_law_335 [some (.ref 61), some (.ref 0), some (.ref 39), some (.int (nI i))] [] h Q := by
  obtain ⟨k61, ⟨f0, k0⟩, f39, k39⟩ := id hK
  have e1 : nI i + 1 = nI (i + 1) := nI_add i 1
  have e2 : nI i + 2 = nI (i + 2) := nI_add i 2
  have e3 : nI i + 3 = nI (i + 3) := nI_add i 3
  have e4 : nI i + 4 = nI (i + 4) := nI_add i 4
  have e5 : nI i + 5 = nI (i + 5) := nI_add i 5
  have r1 := fun (K : Int32 → Prop) => rIs (xs := xs) (K := K) (show i + 1 < L by omega) hL
  have r2 := fun (K : Int32 → Prop) => rIs (xs := xs) (K := K) (show i + 2 < L by omega) hL
  have r3 := fun (K : Int32 → Prop) => rIs (xs := xs) (K := K) (show i + 3 < L by omega) hL
  have r4 := fun (K : Int32 → Prop) => rIs (xs := xs) (K := K) (show i + 4 < L by omega) hL
  have r5 := fun (K : Int32 → Prop) => rIs (xs := xs) (K := K) (show i + 5 < L by omega) hL
  rw [qL_law_335]
  simp only [w0, w1, w2i, w2r, w3, w4, w5_0, w5_1, w5_2, w5_3, w5_4, w5_5, w5_6, w5_7, w5_8, w6_0, w6_1, w7_0, w7_1, w7_2, w7_3, w7_4, w7_5, w8_0, w8_1, w9_0, w9_1, w9_2, w10_0, w10_1, w10_2, w10_3, w10_4, w10_5, w11, w12_0, w12_1, w12_2, w12_3, w12_4, w12_5, w13_0, w13_1, w13_2, w13_3, w13_4, w13_5, w14, w15i, w15r, w16, w17, w18, w19i, w19z, w19l, w20, w21, w22, w23, w24, w25, w26, w27, w28_1, w28_2, w28_3, w28_4, w28_5, w28_6, w29, w30i, w30z, w31, w32, w33, w34, w35, w36, w37_1, w37_2, w37_3, w37_4, w37_5, w37_6, isO_O, set1_0, set1_1i, set1_1r, set1_1n, set1_1l, set1_s, set2_0, set2_1i, set2_1r, set2_1n, set2_1l, set2_s, ldv_i, ldv_l, ldv_r, ldv_s, ldi_i, ldi_s, fK_0, fK_s, gfc_O, fS_0, fS_s, uH_s, uH_n, uH_u, tl_s, tl_n, b1_0, b1_1, ite_true, ite_false, if_true, if_false, List.length_nil, List.length_cons, Nat.zero_le, Nat.zero_add, Nat.reduceAdd, Nat.reduceLeDiff, Nat.reduceLT, Nat.reduceEqDiff, Nat.reduceMul, Nat.add_left_cancel_iff, not_false_eq_true, k61, k0, e1, e2, e3, e4, e5, r1, r2, r3, r4, r5]
  refine pairI (P_told (xs (i + 1)) (xs (i + 2))) hR hK (fun x h1 hK1 hin => ?_)
  obtain ⟨m61, ⟨g0, m0⟩, g39, m39⟩ := id hK1
  simp only [w0, w1, w2i, w2r, w3, w4, w5_0, w5_1, w5_2, w5_3, w5_4, w5_5, w5_6, w5_7, w5_8, w6_0, w6_1, w7_0, w7_1, w7_2, w7_3, w7_4, w7_5, w8_0, w8_1, w9_0, w9_1, w9_2, w10_0, w10_1, w10_2, w10_3, w10_4, w10_5, w11, w12_0, w12_1, w12_2, w12_3, w12_4, w12_5, w13_0, w13_1, w13_2, w13_3, w13_4, w13_5, w14, w15i, w15r, w16, w17, w18, w19i, w19z, w19l, w20, w21, w22, w23, w24, w25, w26, w27, w28_1, w28_2, w28_3, w28_4, w28_5, w28_6, w29, w30i, w30z, w31, w32, w33, w34, w35, w36, w37_1, w37_2, w37_3, w37_4, w37_5, w37_6, isO_O, set1_0, set1_1i, set1_1r, set1_1n, set1_1l, set1_s, set2_0, set2_1i, set2_1r, set2_1n, set2_1l, set2_s, ldv_i, ldv_l, ldv_r, ldv_s, ldi_i, ldi_s, fK_0, fK_s, gfc_O, fS_0, fS_s, uH_s, uH_n, uH_u, tl_s, tl_n, b1_0, b1_1, ite_true, ite_false, if_true, if_false, List.length_nil, List.length_cons, Nat.zero_le, Nat.zero_add, Nat.reduceAdd, Nat.reduceLeDiff, Nat.reduceLT, Nat.reduceEqDiff, Nat.reduceMul, Nat.add_left_cancel_iff, not_false_eq_true, m61, m39, e1, e2, e3, e4, e5, r1, r2, r3, r4, r5]
  refine WpM_SP hin (fun w h2 _ z => ?_)
  obtain ⟨rfl, hR2, hK2⟩ := z
  simp only [jL_law_1190, w0, w1, w2i, w2r, w3, w4, w5_0, w5_1, w5_2, w5_3, w5_4, w5_5, w5_6, w5_7, w5_8, w6_0, w6_1, w7_0, w7_1, w7_2, w7_3, w7_4, w7_5, w8_0, w8_1, w9_0, w9_1, w9_2, w10_0, w10_1, w10_2, w10_3, w10_4, w10_5, w11, w12_0, w12_1, w12_2, w12_3, w12_4, w12_5, w13_0, w13_1, w13_2, w13_3, w13_4, w13_5, w14, w15i, w15r, w16, w17, w18, w19i, w19z, w19l, w20, w21, w22, w23, w24, w25, w26, w27, w28_1, w28_2, w28_3, w28_4, w28_5, w28_6, w29, w30i, w30z, w31, w32, w33, w34, w35, w36, w37_1, w37_2, w37_3, w37_4, w37_5, w37_6, isO_O, set1_0, set1_1i, set1_1r, set1_1n, set1_1l, set1_s, set2_0, set2_1i, set2_1r, set2_1n, set2_1l, set2_s, ldv_i, ldv_l, ldv_r, ldv_s, ldi_i, ldi_s, fK_0, fK_s, gfc_O, fS_0, fS_s, uH_s, uH_n, uH_u, tl_s, tl_n, b1_0, b1_1, ite_true, ite_false, if_true, if_false, List.length_nil, List.length_cons, Nat.zero_le, Nat.zero_add, Nat.reduceAdd, Nat.reduceLeDiff, Nat.reduceLT, Nat.reduceEqDiff, Nat.reduceMul, Nat.add_left_cancel_iff, not_false_eq_true, if_true]
  exact K h2 hR2 hK2
theorem lpz_type {h : AH} {Q : Option Value → AH → Prop} {L i : Nat} {xs : Nat → Int32} (hL : L ≤ 3072) (hi : i + 6 ≤ L) (hR : RR h) (hK : LK h) (K : ∀ h2, RR h2 → LK h2 → Wp (some (L, xs)) 144 qL_law_1190 [some (.ref 61), some (.ref 0), some (.ref 39), some (.int (nI i))] [] h2 Q) : Wp (some (L, xs)) 144 qL_law_368 [some (.ref 61), some (.ref 0), some (.ref 39), some (.int (nI i))] [] h Q := by
  obtain ⟨k61, ⟨f0, k0⟩, f39, k39⟩ := id hK
  have e1 : nI i + 1 = nI (i + 1) := nI_add i 1
  have e2 : nI i + 2 = nI (i + 2) := nI_add i 2
  have e3 : nI i + 3 = nI (i + 3) := nI_add i 3
  have e4 : nI i + 4 = nI (i + 4) := nI_add i 4
  have e5 : nI i + 5 = nI (i + 5) := nI_add i 5
  have r1 := fun (K : Int32 → Prop) => rIs (xs := xs) (K := K) (show i + 1 < L by omega) hL
  have r2 := fun (K : Int32 → Prop) => rIs (xs := xs) (K := K) (show i + 2 < L by omega) hL
  have r3 := fun (K : Int32 → Prop) => rIs (xs := xs) (K := K) (show i + 3 < L by omega) hL
  have r4 := fun (K : Int32 → Prop) => rIs (xs := xs) (K := K) (show i + 4 < L by omega) hL
  have r5 := fun (K : Int32 → Prop) => rIs (xs := xs) (K := K) (show i + 5 < L by omega) hL
  rw [qL_law_368]
  simp only [w0, w1, w2i, w2r, w3, w4, w5_0, w5_1, w5_2, w5_3, w5_4, w5_5, w5_6, w5_7, w5_8, w6_0, w6_1, w7_0, w7_1, w7_2, w7_3, w7_4, w7_5, w8_0, w8_1, w9_0, w9_1, w9_2, w10_0, w10_1, w10_2, w10_3, w10_4, w10_5, w11, w12_0, w12_1, w12_2, w12_3, w12_4, w12_5, w13_0, w13_1, w13_2, w13_3, w13_4, w13_5, w14, w15i, w15r, w16, w17, w18, w19i, w19z, w19l, w20, w21, w22, w23, w24, w25, w26, w27, w28_1, w28_2, w28_3, w28_4, w28_5, w28_6, w29, w30i, w30z, w31, w32, w33, w34, w35, w36, w37_1, w37_2, w37_3, w37_4, w37_5, w37_6, isO_O, set1_0, set1_1i, set1_1r, set1_1n, set1_1l, set1_s, set2_0, set2_1i, set2_1r, set2_1n, set2_1l, set2_s, ldv_i, ldv_l, ldv_r, ldv_s, ldi_i, ldi_s, fK_0, fK_s, gfc_O, fS_0, fS_s, uH_s, uH_n, uH_u, tl_s, tl_n, b1_0, b1_1, ite_true, ite_false, if_true, if_false, List.length_nil, List.length_cons, Nat.zero_le, Nat.zero_add, Nat.reduceAdd, Nat.reduceLeDiff, Nat.reduceLT, Nat.reduceEqDiff, Nat.reduceMul, Nat.add_left_cancel_iff, not_false_eq_true, k61, k0, e1, e2, e3, e4, e5, r1, r2, r3, r4, r5]
  refine pairI (P_type (((xs (i + 1)).toInt64 <<< ((32 : Int32).toInt64 &&& 63)) ||| ((xs (i + 2)).toInt64 &&& 4294967295)) (xs (i + 3))) hR hK (fun x h1 hK1 hin => ?_)
  obtain ⟨m61, ⟨g0, m0⟩, g39, m39⟩ := id hK1
  simp only [w0, w1, w2i, w2r, w3, w4, w5_0, w5_1, w5_2, w5_3, w5_4, w5_5, w5_6, w5_7, w5_8, w6_0, w6_1, w7_0, w7_1, w7_2, w7_3, w7_4, w7_5, w8_0, w8_1, w9_0, w9_1, w9_2, w10_0, w10_1, w10_2, w10_3, w10_4, w10_5, w11, w12_0, w12_1, w12_2, w12_3, w12_4, w12_5, w13_0, w13_1, w13_2, w13_3, w13_4, w13_5, w14, w15i, w15r, w16, w17, w18, w19i, w19z, w19l, w20, w21, w22, w23, w24, w25, w26, w27, w28_1, w28_2, w28_3, w28_4, w28_5, w28_6, w29, w30i, w30z, w31, w32, w33, w34, w35, w36, w37_1, w37_2, w37_3, w37_4, w37_5, w37_6, isO_O, set1_0, set1_1i, set1_1r, set1_1n, set1_1l, set1_s, set2_0, set2_1i, set2_1r, set2_1n, set2_1l, set2_s, ldv_i, ldv_l, ldv_r, ldv_s, ldi_i, ldi_s, fK_0, fK_s, gfc_O, fS_0, fS_s, uH_s, uH_n, uH_u, tl_s, tl_n, b1_0, b1_1, ite_true, ite_false, if_true, if_false, List.length_nil, List.length_cons, Nat.zero_le, Nat.zero_add, Nat.reduceAdd, Nat.reduceLeDiff, Nat.reduceLT, Nat.reduceEqDiff, Nat.reduceMul, Nat.add_left_cancel_iff, not_false_eq_true, m61, m39, e1, e2, e3, e4, e5, r1, r2, r3, r4, r5]
  refine WpM_SP hin (fun w h2 _ z => ?_)
  obtain ⟨rfl, hR2, hK2⟩ := z
  simp only [jL_law_1190, w0, w1, w2i, w2r, w3, w4, w5_0, w5_1, w5_2, w5_3, w5_4, w5_5, w5_6, w5_7, w5_8, w6_0, w6_1, w7_0, w7_1, w7_2, w7_3, w7_4, w7_5, w8_0, w8_1, w9_0, w9_1, w9_2, w10_0, w10_1, w10_2, w10_3, w10_4, w10_5, w11, w12_0, w12_1, w12_2, w12_3, w12_4, w12_5, w13_0, w13_1, w13_2, w13_3, w13_4, w13_5, w14, w15i, w15r, w16, w17, w18, w19i, w19z, w19l, w20, w21, w22, w23, w24, w25, w26, w27, w28_1, w28_2, w28_3, w28_4, w28_5, w28_6, w29, w30i, w30z, w31, w32, w33, w34, w35, w36, w37_1, w37_2, w37_3, w37_4, w37_5, w37_6, isO_O, set1_0, set1_1i, set1_1r, set1_1n, set1_1l, set1_s, set2_0, set2_1i, set2_1r, set2_1n, set2_1l, set2_s, ldv_i, ldv_l, ldv_r, ldv_s, ldi_i, ldi_s, fK_0, fK_s, gfc_O, fS_0, fS_s, uH_s, uH_n, uH_u, tl_s, tl_n, b1_0, b1_1, ite_true, ite_false, if_true, if_false, List.length_nil, List.length_cons, Nat.zero_le, Nat.zero_add, Nat.reduceAdd, Nat.reduceLeDiff, Nat.reduceLT, Nat.reduceEqDiff, Nat.reduceMul, Nat.add_left_cancel_iff, not_false_eq_true, if_true]
  exact K h2 hR2 hK2
theorem lpz_town {h : AH} {Q : Option Value → AH → Prop} {L i : Nat} {xs : Nat → Int32} (hL : L ≤ 3072) (hi : i + 6 ≤ L) (hR : RR h) (hK : LK h) (K : ∀ h2, RR h2 → LK h2 → Wp (some (L, xs)) 144 qL_law_1190 [some (.ref 61), some (.ref 0), some (.ref 39), some (.int (nI i))] [] h2 Q) : Wp (some (L, xs)) 144 qL_law_431 [some (.ref 61), some (.ref 0), some (.ref 39), some (.int (nI i))] [] h Q := by
  obtain ⟨k61, ⟨f0, k0⟩, f39, k39⟩ := id hK
  have e1 : nI i + 1 = nI (i + 1) := nI_add i 1
  have e2 : nI i + 2 = nI (i + 2) := nI_add i 2
  have e3 : nI i + 3 = nI (i + 3) := nI_add i 3
  have e4 : nI i + 4 = nI (i + 4) := nI_add i 4
  have e5 : nI i + 5 = nI (i + 5) := nI_add i 5
  have r1 := fun (K : Int32 → Prop) => rIs (xs := xs) (K := K) (show i + 1 < L by omega) hL
  have r2 := fun (K : Int32 → Prop) => rIs (xs := xs) (K := K) (show i + 2 < L by omega) hL
  have r3 := fun (K : Int32 → Prop) => rIs (xs := xs) (K := K) (show i + 3 < L by omega) hL
  have r4 := fun (K : Int32 → Prop) => rIs (xs := xs) (K := K) (show i + 4 < L by omega) hL
  have r5 := fun (K : Int32 → Prop) => rIs (xs := xs) (K := K) (show i + 5 < L by omega) hL
  rw [qL_law_431]
  simp only [w0, w1, w2i, w2r, w3, w4, w5_0, w5_1, w5_2, w5_3, w5_4, w5_5, w5_6, w5_7, w5_8, w6_0, w6_1, w7_0, w7_1, w7_2, w7_3, w7_4, w7_5, w8_0, w8_1, w9_0, w9_1, w9_2, w10_0, w10_1, w10_2, w10_3, w10_4, w10_5, w11, w12_0, w12_1, w12_2, w12_3, w12_4, w12_5, w13_0, w13_1, w13_2, w13_3, w13_4, w13_5, w14, w15i, w15r, w16, w17, w18, w19i, w19z, w19l, w20, w21, w22, w23, w24, w25, w26, w27, w28_1, w28_2, w28_3, w28_4, w28_5, w28_6, w29, w30i, w30z, w31, w32, w33, w34, w35, w36, w37_1, w37_2, w37_3, w37_4, w37_5, w37_6, isO_O, set1_0, set1_1i, set1_1r, set1_1n, set1_1l, set1_s, set2_0, set2_1i, set2_1r, set2_1n, set2_1l, set2_s, ldv_i, ldv_l, ldv_r, ldv_s, ldi_i, ldi_s, fK_0, fK_s, gfc_O, fS_0, fS_s, uH_s, uH_n, uH_u, tl_s, tl_n, b1_0, b1_1, ite_true, ite_false, if_true, if_false, List.length_nil, List.length_cons, Nat.zero_le, Nat.zero_add, Nat.reduceAdd, Nat.reduceLeDiff, Nat.reduceLT, Nat.reduceEqDiff, Nat.reduceMul, Nat.add_left_cancel_iff, not_false_eq_true, k61, k0, e1, e2, e3, e4, e5, r1, r2, r3, r4, r5]
  refine pairI (P_town) hR hK (fun x h1 hK1 hin => ?_)
  obtain ⟨m61, ⟨g0, m0⟩, g39, m39⟩ := id hK1
  simp only [w0, w1, w2i, w2r, w3, w4, w5_0, w5_1, w5_2, w5_3, w5_4, w5_5, w5_6, w5_7, w5_8, w6_0, w6_1, w7_0, w7_1, w7_2, w7_3, w7_4, w7_5, w8_0, w8_1, w9_0, w9_1, w9_2, w10_0, w10_1, w10_2, w10_3, w10_4, w10_5, w11, w12_0, w12_1, w12_2, w12_3, w12_4, w12_5, w13_0, w13_1, w13_2, w13_3, w13_4, w13_5, w14, w15i, w15r, w16, w17, w18, w19i, w19z, w19l, w20, w21, w22, w23, w24, w25, w26, w27, w28_1, w28_2, w28_3, w28_4, w28_5, w28_6, w29, w30i, w30z, w31, w32, w33, w34, w35, w36, w37_1, w37_2, w37_3, w37_4, w37_5, w37_6, isO_O, set1_0, set1_1i, set1_1r, set1_1n, set1_1l, set1_s, set2_0, set2_1i, set2_1r, set2_1n, set2_1l, set2_s, ldv_i, ldv_l, ldv_r, ldv_s, ldi_i, ldi_s, fK_0, fK_s, gfc_O, fS_0, fS_s, uH_s, uH_n, uH_u, tl_s, tl_n, b1_0, b1_1, ite_true, ite_false, if_true, if_false, List.length_nil, List.length_cons, Nat.zero_le, Nat.zero_add, Nat.reduceAdd, Nat.reduceLeDiff, Nat.reduceLT, Nat.reduceEqDiff, Nat.reduceMul, Nat.add_left_cancel_iff, not_false_eq_true, m61, m39, e1, e2, e3, e4, e5, r1, r2, r3, r4, r5]
  refine WpM_SP hin (fun w h2 _ z => ?_)
  obtain ⟨rfl, hR2, hK2⟩ := z
  simp only [jL_law_1190, w0, w1, w2i, w2r, w3, w4, w5_0, w5_1, w5_2, w5_3, w5_4, w5_5, w5_6, w5_7, w5_8, w6_0, w6_1, w7_0, w7_1, w7_2, w7_3, w7_4, w7_5, w8_0, w8_1, w9_0, w9_1, w9_2, w10_0, w10_1, w10_2, w10_3, w10_4, w10_5, w11, w12_0, w12_1, w12_2, w12_3, w12_4, w12_5, w13_0, w13_1, w13_2, w13_3, w13_4, w13_5, w14, w15i, w15r, w16, w17, w18, w19i, w19z, w19l, w20, w21, w22, w23, w24, w25, w26, w27, w28_1, w28_2, w28_3, w28_4, w28_5, w28_6, w29, w30i, w30z, w31, w32, w33, w34, w35, w36, w37_1, w37_2, w37_3, w37_4, w37_5, w37_6, isO_O, set1_0, set1_1i, set1_1r, set1_1n, set1_1l, set1_s, set2_0, set2_1i, set2_1r, set2_1n, set2_1l, set2_s, ldv_i, ldv_l, ldv_r, ldv_s, ldi_i, ldi_s, fK_0, fK_s, gfc_O, fS_0, fS_s, uH_s, uH_n, uH_u, tl_s, tl_n, b1_0, b1_1, ite_true, ite_false, if_true, if_false, List.length_nil, List.length_cons, Nat.zero_le, Nat.zero_add, Nat.reduceAdd, Nat.reduceLeDiff, Nat.reduceLT, Nat.reduceEqDiff, Nat.reduceMul, Nat.add_left_cancel_iff, not_false_eq_true, if_true]
  exact K h2 hR2 hK2
theorem lpz_count {h : AH} {Q : Option Value → AH → Prop} {L i : Nat} {xs : Nat → Int32} (hL : L ≤ 3072) (hi : i + 6 ≤ L) (hR : RR h) (hK : LK h) (K : ∀ h2, RR h2 → LK h2 → Wp (some (L, xs)) 144 qL_law_1190 [some (.ref 61), some (.ref 0), some (.ref 39), some (.int (nI i))] [] h2 Q) : Wp (some (L, xs)) 144 qL_law_444 [some (.ref 61), some (.ref 0), some (.ref 39), some (.int (nI i))] [] h Q := by
  obtain ⟨k61, ⟨f0, k0⟩, f39, k39⟩ := id hK
  have e1 : nI i + 1 = nI (i + 1) := nI_add i 1
  have e2 : nI i + 2 = nI (i + 2) := nI_add i 2
  have e3 : nI i + 3 = nI (i + 3) := nI_add i 3
  have e4 : nI i + 4 = nI (i + 4) := nI_add i 4
  have e5 : nI i + 5 = nI (i + 5) := nI_add i 5
  have r1 := fun (K : Int32 → Prop) => rIs (xs := xs) (K := K) (show i + 1 < L by omega) hL
  have r2 := fun (K : Int32 → Prop) => rIs (xs := xs) (K := K) (show i + 2 < L by omega) hL
  have r3 := fun (K : Int32 → Prop) => rIs (xs := xs) (K := K) (show i + 3 < L by omega) hL
  have r4 := fun (K : Int32 → Prop) => rIs (xs := xs) (K := K) (show i + 4 < L by omega) hL
  have r5 := fun (K : Int32 → Prop) => rIs (xs := xs) (K := K) (show i + 5 < L by omega) hL
  rw [qL_law_444]
  simp only [w0, w1, w2i, w2r, w3, w4, w5_0, w5_1, w5_2, w5_3, w5_4, w5_5, w5_6, w5_7, w5_8, w6_0, w6_1, w7_0, w7_1, w7_2, w7_3, w7_4, w7_5, w8_0, w8_1, w9_0, w9_1, w9_2, w10_0, w10_1, w10_2, w10_3, w10_4, w10_5, w11, w12_0, w12_1, w12_2, w12_3, w12_4, w12_5, w13_0, w13_1, w13_2, w13_3, w13_4, w13_5, w14, w15i, w15r, w16, w17, w18, w19i, w19z, w19l, w20, w21, w22, w23, w24, w25, w26, w27, w28_1, w28_2, w28_3, w28_4, w28_5, w28_6, w29, w30i, w30z, w31, w32, w33, w34, w35, w36, w37_1, w37_2, w37_3, w37_4, w37_5, w37_6, isO_O, set1_0, set1_1i, set1_1r, set1_1n, set1_1l, set1_s, set2_0, set2_1i, set2_1r, set2_1n, set2_1l, set2_s, ldv_i, ldv_l, ldv_r, ldv_s, ldi_i, ldi_s, fK_0, fK_s, gfc_O, fS_0, fS_s, uH_s, uH_n, uH_u, tl_s, tl_n, b1_0, b1_1, ite_true, ite_false, if_true, if_false, List.length_nil, List.length_cons, Nat.zero_le, Nat.zero_add, Nat.reduceAdd, Nat.reduceLeDiff, Nat.reduceLT, Nat.reduceEqDiff, Nat.reduceMul, Nat.add_left_cancel_iff, not_false_eq_true, k61, k0, e1, e2, e3, e4, e5, r1, r2, r3, r4, r5]
  refine pairI (P_count (xs (i + 1))) hR hK (fun x h1 hK1 hin => ?_)
  obtain ⟨m61, ⟨g0, m0⟩, g39, m39⟩ := id hK1
  simp only [w0, w1, w2i, w2r, w3, w4, w5_0, w5_1, w5_2, w5_3, w5_4, w5_5, w5_6, w5_7, w5_8, w6_0, w6_1, w7_0, w7_1, w7_2, w7_3, w7_4, w7_5, w8_0, w8_1, w9_0, w9_1, w9_2, w10_0, w10_1, w10_2, w10_3, w10_4, w10_5, w11, w12_0, w12_1, w12_2, w12_3, w12_4, w12_5, w13_0, w13_1, w13_2, w13_3, w13_4, w13_5, w14, w15i, w15r, w16, w17, w18, w19i, w19z, w19l, w20, w21, w22, w23, w24, w25, w26, w27, w28_1, w28_2, w28_3, w28_4, w28_5, w28_6, w29, w30i, w30z, w31, w32, w33, w34, w35, w36, w37_1, w37_2, w37_3, w37_4, w37_5, w37_6, isO_O, set1_0, set1_1i, set1_1r, set1_1n, set1_1l, set1_s, set2_0, set2_1i, set2_1r, set2_1n, set2_1l, set2_s, ldv_i, ldv_l, ldv_r, ldv_s, ldi_i, ldi_s, fK_0, fK_s, gfc_O, fS_0, fS_s, uH_s, uH_n, uH_u, tl_s, tl_n, b1_0, b1_1, ite_true, ite_false, if_true, if_false, List.length_nil, List.length_cons, Nat.zero_le, Nat.zero_add, Nat.reduceAdd, Nat.reduceLeDiff, Nat.reduceLT, Nat.reduceEqDiff, Nat.reduceMul, Nat.add_left_cancel_iff, not_false_eq_true, m61, m39, e1, e2, e3, e4, e5, r1, r2, r3, r4, r5]
  refine WpM_SP hin (fun w h2 _ z => ?_)
  obtain ⟨rfl, hR2, hK2⟩ := z
  simp only [jL_law_1190, w0, w1, w2i, w2r, w3, w4, w5_0, w5_1, w5_2, w5_3, w5_4, w5_5, w5_6, w5_7, w5_8, w6_0, w6_1, w7_0, w7_1, w7_2, w7_3, w7_4, w7_5, w8_0, w8_1, w9_0, w9_1, w9_2, w10_0, w10_1, w10_2, w10_3, w10_4, w10_5, w11, w12_0, w12_1, w12_2, w12_3, w12_4, w12_5, w13_0, w13_1, w13_2, w13_3, w13_4, w13_5, w14, w15i, w15r, w16, w17, w18, w19i, w19z, w19l, w20, w21, w22, w23, w24, w25, w26, w27, w28_1, w28_2, w28_3, w28_4, w28_5, w28_6, w29, w30i, w30z, w31, w32, w33, w34, w35, w36, w37_1, w37_2, w37_3, w37_4, w37_5, w37_6, isO_O, set1_0, set1_1i, set1_1r, set1_1n, set1_1l, set1_s, set2_0, set2_1i, set2_1r, set2_1n, set2_1l, set2_s, ldv_i, ldv_l, ldv_r, ldv_s, ldi_i, ldi_s, fK_0, fK_s, gfc_O, fS_0, fS_s, uH_s, uH_n, uH_u, tl_s, tl_n, b1_0, b1_1, ite_true, ite_false, if_true, if_false, List.length_nil, List.length_cons, Nat.zero_le, Nat.zero_add, Nat.reduceAdd, Nat.reduceLeDiff, Nat.reduceLT, Nat.reduceEqDiff, Nat.reduceMul, Nat.add_left_cancel_iff, not_false_eq_true, if_true]
  exact K h2 hR2 hK2
theorem lpz_rent {h : AH} {Q : Option Value → AH → Prop} {L i : Nat} {xs : Nat → Int32} (hL : L ≤ 3072) (hi : i + 6 ≤ L) (hR : RR h) (hK : LK h) (K : ∀ h2, RR h2 → LK h2 → Wp (some (L, xs)) 144 qL_law_1190 [some (.ref 61), some (.ref 0), some (.ref 39), some (.int (nI i))] [] h2 Q) : Wp (some (L, xs)) 144 qL_law_467 [some (.ref 61), some (.ref 0), some (.ref 39), some (.int (nI i))] [] h Q := by
  obtain ⟨k61, ⟨f0, k0⟩, f39, k39⟩ := id hK
  have e1 : nI i + 1 = nI (i + 1) := nI_add i 1
  have e2 : nI i + 2 = nI (i + 2) := nI_add i 2
  have e3 : nI i + 3 = nI (i + 3) := nI_add i 3
  have e4 : nI i + 4 = nI (i + 4) := nI_add i 4
  have e5 : nI i + 5 = nI (i + 5) := nI_add i 5
  have r1 := fun (K : Int32 → Prop) => rIs (xs := xs) (K := K) (show i + 1 < L by omega) hL
  have r2 := fun (K : Int32 → Prop) => rIs (xs := xs) (K := K) (show i + 2 < L by omega) hL
  have r3 := fun (K : Int32 → Prop) => rIs (xs := xs) (K := K) (show i + 3 < L by omega) hL
  have r4 := fun (K : Int32 → Prop) => rIs (xs := xs) (K := K) (show i + 4 < L by omega) hL
  have r5 := fun (K : Int32 → Prop) => rIs (xs := xs) (K := K) (show i + 5 < L by omega) hL
  rw [qL_law_467]
  simp only [w0, w1, w2i, w2r, w3, w4, w5_0, w5_1, w5_2, w5_3, w5_4, w5_5, w5_6, w5_7, w5_8, w6_0, w6_1, w7_0, w7_1, w7_2, w7_3, w7_4, w7_5, w8_0, w8_1, w9_0, w9_1, w9_2, w10_0, w10_1, w10_2, w10_3, w10_4, w10_5, w11, w12_0, w12_1, w12_2, w12_3, w12_4, w12_5, w13_0, w13_1, w13_2, w13_3, w13_4, w13_5, w14, w15i, w15r, w16, w17, w18, w19i, w19z, w19l, w20, w21, w22, w23, w24, w25, w26, w27, w28_1, w28_2, w28_3, w28_4, w28_5, w28_6, w29, w30i, w30z, w31, w32, w33, w34, w35, w36, w37_1, w37_2, w37_3, w37_4, w37_5, w37_6, isO_O, set1_0, set1_1i, set1_1r, set1_1n, set1_1l, set1_s, set2_0, set2_1i, set2_1r, set2_1n, set2_1l, set2_s, ldv_i, ldv_l, ldv_r, ldv_s, ldi_i, ldi_s, fK_0, fK_s, gfc_O, fS_0, fS_s, uH_s, uH_n, uH_u, tl_s, tl_n, b1_0, b1_1, ite_true, ite_false, if_true, if_false, List.length_nil, List.length_cons, Nat.zero_le, Nat.zero_add, Nat.reduceAdd, Nat.reduceLeDiff, Nat.reduceLT, Nat.reduceEqDiff, Nat.reduceMul, Nat.add_left_cancel_iff, not_false_eq_true, k61, k0, e1, e2, e3, e4, e5, r1, r2, r3, r4, r5]
  refine pairL (P_rent (xs (i + 1)) (xs (i + 2))) hR hK (fun x h1 hK1 hin => ?_)
  obtain ⟨m61, ⟨g0, m0⟩, g39, m39⟩ := id hK1
  simp only [w0, w1, w2i, w2r, w3, w4, w5_0, w5_1, w5_2, w5_3, w5_4, w5_5, w5_6, w5_7, w5_8, w6_0, w6_1, w7_0, w7_1, w7_2, w7_3, w7_4, w7_5, w8_0, w8_1, w9_0, w9_1, w9_2, w10_0, w10_1, w10_2, w10_3, w10_4, w10_5, w11, w12_0, w12_1, w12_2, w12_3, w12_4, w12_5, w13_0, w13_1, w13_2, w13_3, w13_4, w13_5, w14, w15i, w15r, w16, w17, w18, w19i, w19z, w19l, w20, w21, w22, w23, w24, w25, w26, w27, w28_1, w28_2, w28_3, w28_4, w28_5, w28_6, w29, w30i, w30z, w31, w32, w33, w34, w35, w36, w37_1, w37_2, w37_3, w37_4, w37_5, w37_6, isO_O, set1_0, set1_1i, set1_1r, set1_1n, set1_1l, set1_s, set2_0, set2_1i, set2_1r, set2_1n, set2_1l, set2_s, ldv_i, ldv_l, ldv_r, ldv_s, ldi_i, ldi_s, fK_0, fK_s, gfc_O, fS_0, fS_s, uH_s, uH_n, uH_u, tl_s, tl_n, b1_0, b1_1, ite_true, ite_false, if_true, if_false, List.length_nil, List.length_cons, Nat.zero_le, Nat.zero_add, Nat.reduceAdd, Nat.reduceLeDiff, Nat.reduceLT, Nat.reduceEqDiff, Nat.reduceMul, Nat.add_left_cancel_iff, not_false_eq_true, m61, m39, e1, e2, e3, e4, e5, r1, r2, r3, r4, r5]
  refine WpM_SP hin (fun w h2 _ z => ?_)
  obtain ⟨rfl, hR2, hK2⟩ := z
  simp only [jL_law_1190, w0, w1, w2i, w2r, w3, w4, w5_0, w5_1, w5_2, w5_3, w5_4, w5_5, w5_6, w5_7, w5_8, w6_0, w6_1, w7_0, w7_1, w7_2, w7_3, w7_4, w7_5, w8_0, w8_1, w9_0, w9_1, w9_2, w10_0, w10_1, w10_2, w10_3, w10_4, w10_5, w11, w12_0, w12_1, w12_2, w12_3, w12_4, w12_5, w13_0, w13_1, w13_2, w13_3, w13_4, w13_5, w14, w15i, w15r, w16, w17, w18, w19i, w19z, w19l, w20, w21, w22, w23, w24, w25, w26, w27, w28_1, w28_2, w28_3, w28_4, w28_5, w28_6, w29, w30i, w30z, w31, w32, w33, w34, w35, w36, w37_1, w37_2, w37_3, w37_4, w37_5, w37_6, isO_O, set1_0, set1_1i, set1_1r, set1_1n, set1_1l, set1_s, set2_0, set2_1i, set2_1r, set2_1n, set2_1l, set2_s, ldv_i, ldv_l, ldv_r, ldv_s, ldi_i, ldi_s, fK_0, fK_s, gfc_O, fS_0, fS_s, uH_s, uH_n, uH_u, tl_s, tl_n, b1_0, b1_1, ite_true, ite_false, if_true, if_false, List.length_nil, List.length_cons, Nat.zero_le, Nat.zero_add, Nat.reduceAdd, Nat.reduceLeDiff, Nat.reduceLT, Nat.reduceEqDiff, Nat.reduceMul, Nat.add_left_cancel_iff, not_false_eq_true, lg_cmp_eq, if_true]
  exact K h2 hR2 hK2
theorem lpz_moves {h : AH} {Q : Option Value → AH → Prop} {L i : Nat} {xs : Nat → Int32} (hL : L ≤ 3072) (hi : i + 6 ≤ L) (hR : RR h) (hK : LK h) (K : ∀ h2, RR h2 → LK h2 → Wp (some (L, xs)) 144 qL_law_1190 [some (.ref 61), some (.ref 0), some (.ref 39), some (.int (nI i))] [] h2 Q) : Wp (some (L, xs)) 144 qL_law_501 [some (.ref 61), some (.ref 0), some (.ref 39), some (.int (nI i))] [] h Q := by
  obtain ⟨k61, ⟨f0, k0⟩, f39, k39⟩ := id hK
  have e1 : nI i + 1 = nI (i + 1) := nI_add i 1
  have e2 : nI i + 2 = nI (i + 2) := nI_add i 2
  have e3 : nI i + 3 = nI (i + 3) := nI_add i 3
  have e4 : nI i + 4 = nI (i + 4) := nI_add i 4
  have e5 : nI i + 5 = nI (i + 5) := nI_add i 5
  have r1 := fun (K : Int32 → Prop) => rIs (xs := xs) (K := K) (show i + 1 < L by omega) hL
  have r2 := fun (K : Int32 → Prop) => rIs (xs := xs) (K := K) (show i + 2 < L by omega) hL
  have r3 := fun (K : Int32 → Prop) => rIs (xs := xs) (K := K) (show i + 3 < L by omega) hL
  have r4 := fun (K : Int32 → Prop) => rIs (xs := xs) (K := K) (show i + 4 < L by omega) hL
  have r5 := fun (K : Int32 → Prop) => rIs (xs := xs) (K := K) (show i + 5 < L by omega) hL
  rw [qL_law_501]
  simp only [w0, w1, w2i, w2r, w3, w4, w5_0, w5_1, w5_2, w5_3, w5_4, w5_5, w5_6, w5_7, w5_8, w6_0, w6_1, w7_0, w7_1, w7_2, w7_3, w7_4, w7_5, w8_0, w8_1, w9_0, w9_1, w9_2, w10_0, w10_1, w10_2, w10_3, w10_4, w10_5, w11, w12_0, w12_1, w12_2, w12_3, w12_4, w12_5, w13_0, w13_1, w13_2, w13_3, w13_4, w13_5, w14, w15i, w15r, w16, w17, w18, w19i, w19z, w19l, w20, w21, w22, w23, w24, w25, w26, w27, w28_1, w28_2, w28_3, w28_4, w28_5, w28_6, w29, w30i, w30z, w31, w32, w33, w34, w35, w36, w37_1, w37_2, w37_3, w37_4, w37_5, w37_6, isO_O, set1_0, set1_1i, set1_1r, set1_1n, set1_1l, set1_s, set2_0, set2_1i, set2_1r, set2_1n, set2_1l, set2_s, ldv_i, ldv_l, ldv_r, ldv_s, ldi_i, ldi_s, fK_0, fK_s, gfc_O, fS_0, fS_s, uH_s, uH_n, uH_u, tl_s, tl_n, b1_0, b1_1, ite_true, ite_false, if_true, if_false, List.length_nil, List.length_cons, Nat.zero_le, Nat.zero_add, Nat.reduceAdd, Nat.reduceLeDiff, Nat.reduceLT, Nat.reduceEqDiff, Nat.reduceMul, Nat.add_left_cancel_iff, not_false_eq_true, k61, k0, e1, e2, e3, e4, e5, r1, r2, r3, r4, r5]
  refine pairL (P_moves (xs (i + 1)) (xs (i + 2)) (xs (i + 3))) hR hK (fun x h1 hK1 hin => ?_)
  obtain ⟨m61, ⟨g0, m0⟩, g39, m39⟩ := id hK1
  simp only [w0, w1, w2i, w2r, w3, w4, w5_0, w5_1, w5_2, w5_3, w5_4, w5_5, w5_6, w5_7, w5_8, w6_0, w6_1, w7_0, w7_1, w7_2, w7_3, w7_4, w7_5, w8_0, w8_1, w9_0, w9_1, w9_2, w10_0, w10_1, w10_2, w10_3, w10_4, w10_5, w11, w12_0, w12_1, w12_2, w12_3, w12_4, w12_5, w13_0, w13_1, w13_2, w13_3, w13_4, w13_5, w14, w15i, w15r, w16, w17, w18, w19i, w19z, w19l, w20, w21, w22, w23, w24, w25, w26, w27, w28_1, w28_2, w28_3, w28_4, w28_5, w28_6, w29, w30i, w30z, w31, w32, w33, w34, w35, w36, w37_1, w37_2, w37_3, w37_4, w37_5, w37_6, isO_O, set1_0, set1_1i, set1_1r, set1_1n, set1_1l, set1_s, set2_0, set2_1i, set2_1r, set2_1n, set2_1l, set2_s, ldv_i, ldv_l, ldv_r, ldv_s, ldi_i, ldi_s, fK_0, fK_s, gfc_O, fS_0, fS_s, uH_s, uH_n, uH_u, tl_s, tl_n, b1_0, b1_1, ite_true, ite_false, if_true, if_false, List.length_nil, List.length_cons, Nat.zero_le, Nat.zero_add, Nat.reduceAdd, Nat.reduceLeDiff, Nat.reduceLT, Nat.reduceEqDiff, Nat.reduceMul, Nat.add_left_cancel_iff, not_false_eq_true, m61, m39, e1, e2, e3, e4, e5, r1, r2, r3, r4, r5]
  refine WpM_SP hin (fun w h2 _ z => ?_)
  obtain ⟨rfl, hR2, hK2⟩ := z
  simp only [jL_law_1190, w0, w1, w2i, w2r, w3, w4, w5_0, w5_1, w5_2, w5_3, w5_4, w5_5, w5_6, w5_7, w5_8, w6_0, w6_1, w7_0, w7_1, w7_2, w7_3, w7_4, w7_5, w8_0, w8_1, w9_0, w9_1, w9_2, w10_0, w10_1, w10_2, w10_3, w10_4, w10_5, w11, w12_0, w12_1, w12_2, w12_3, w12_4, w12_5, w13_0, w13_1, w13_2, w13_3, w13_4, w13_5, w14, w15i, w15r, w16, w17, w18, w19i, w19z, w19l, w20, w21, w22, w23, w24, w25, w26, w27, w28_1, w28_2, w28_3, w28_4, w28_5, w28_6, w29, w30i, w30z, w31, w32, w33, w34, w35, w36, w37_1, w37_2, w37_3, w37_4, w37_5, w37_6, isO_O, set1_0, set1_1i, set1_1r, set1_1n, set1_1l, set1_s, set2_0, set2_1i, set2_1r, set2_1n, set2_1l, set2_s, ldv_i, ldv_l, ldv_r, ldv_s, ldi_i, ldi_s, fK_0, fK_s, gfc_O, fS_0, fS_s, uH_s, uH_n, uH_u, tl_s, tl_n, b1_0, b1_1, ite_true, ite_false, if_true, if_false, List.length_nil, List.length_cons, Nat.zero_le, Nat.zero_add, Nat.reduceAdd, Nat.reduceLeDiff, Nat.reduceLT, Nat.reduceEqDiff, Nat.reduceMul, Nat.add_left_cancel_iff, not_false_eq_true, lg_cmp_eq, if_true]
  exact K h2 hR2 hK2
theorem lpz_walk {h : AH} {Q : Option Value → AH → Prop} {L i : Nat} {xs : Nat → Int32} (hL : L ≤ 3072) (hi : i + 6 ≤ L) (hR : RR h) (hK : LK h) (K : ∀ h2, RR h2 → LK h2 → Wp (some (L, xs)) 144 qL_law_1190 [some (.ref 61), some (.ref 0), some (.ref 39), some (.int (nI i))] [] h2 Q) : Wp (some (L, xs)) 144 qL_law_545 [some (.ref 61), some (.ref 0), some (.ref 39), some (.int (nI i))] [] h Q := by
  obtain ⟨k61, ⟨f0, k0⟩, f39, k39⟩ := id hK
  have e1 : nI i + 1 = nI (i + 1) := nI_add i 1
  have e2 : nI i + 2 = nI (i + 2) := nI_add i 2
  have e3 : nI i + 3 = nI (i + 3) := nI_add i 3
  have e4 : nI i + 4 = nI (i + 4) := nI_add i 4
  have e5 : nI i + 5 = nI (i + 5) := nI_add i 5
  have r1 := fun (K : Int32 → Prop) => rIs (xs := xs) (K := K) (show i + 1 < L by omega) hL
  have r2 := fun (K : Int32 → Prop) => rIs (xs := xs) (K := K) (show i + 2 < L by omega) hL
  have r3 := fun (K : Int32 → Prop) => rIs (xs := xs) (K := K) (show i + 3 < L by omega) hL
  have r4 := fun (K : Int32 → Prop) => rIs (xs := xs) (K := K) (show i + 4 < L by omega) hL
  have r5 := fun (K : Int32 → Prop) => rIs (xs := xs) (K := K) (show i + 5 < L by omega) hL
  rw [qL_law_545]
  simp only [w0, w1, w2i, w2r, w3, w4, w5_0, w5_1, w5_2, w5_3, w5_4, w5_5, w5_6, w5_7, w5_8, w6_0, w6_1, w7_0, w7_1, w7_2, w7_3, w7_4, w7_5, w8_0, w8_1, w9_0, w9_1, w9_2, w10_0, w10_1, w10_2, w10_3, w10_4, w10_5, w11, w12_0, w12_1, w12_2, w12_3, w12_4, w12_5, w13_0, w13_1, w13_2, w13_3, w13_4, w13_5, w14, w15i, w15r, w16, w17, w18, w19i, w19z, w19l, w20, w21, w22, w23, w24, w25, w26, w27, w28_1, w28_2, w28_3, w28_4, w28_5, w28_6, w29, w30i, w30z, w31, w32, w33, w34, w35, w36, w37_1, w37_2, w37_3, w37_4, w37_5, w37_6, isO_O, set1_0, set1_1i, set1_1r, set1_1n, set1_1l, set1_s, set2_0, set2_1i, set2_1r, set2_1n, set2_1l, set2_s, ldv_i, ldv_l, ldv_r, ldv_s, ldi_i, ldi_s, fK_0, fK_s, gfc_O, fS_0, fS_s, uH_s, uH_n, uH_u, tl_s, tl_n, b1_0, b1_1, ite_true, ite_false, if_true, if_false, List.length_nil, List.length_cons, Nat.zero_le, Nat.zero_add, Nat.reduceAdd, Nat.reduceLeDiff, Nat.reduceLT, Nat.reduceEqDiff, Nat.reduceMul, Nat.add_left_cancel_iff, not_false_eq_true, k61, k0, e1, e2, e3, e4, e5, r1, r2, r3, r4, r5]
  refine pairL (P_walk (xs (i + 1)) (xs (i + 2))) hR hK (fun x h1 hK1 hin => ?_)
  obtain ⟨m61, ⟨g0, m0⟩, g39, m39⟩ := id hK1
  simp only [w0, w1, w2i, w2r, w3, w4, w5_0, w5_1, w5_2, w5_3, w5_4, w5_5, w5_6, w5_7, w5_8, w6_0, w6_1, w7_0, w7_1, w7_2, w7_3, w7_4, w7_5, w8_0, w8_1, w9_0, w9_1, w9_2, w10_0, w10_1, w10_2, w10_3, w10_4, w10_5, w11, w12_0, w12_1, w12_2, w12_3, w12_4, w12_5, w13_0, w13_1, w13_2, w13_3, w13_4, w13_5, w14, w15i, w15r, w16, w17, w18, w19i, w19z, w19l, w20, w21, w22, w23, w24, w25, w26, w27, w28_1, w28_2, w28_3, w28_4, w28_5, w28_6, w29, w30i, w30z, w31, w32, w33, w34, w35, w36, w37_1, w37_2, w37_3, w37_4, w37_5, w37_6, isO_O, set1_0, set1_1i, set1_1r, set1_1n, set1_1l, set1_s, set2_0, set2_1i, set2_1r, set2_1n, set2_1l, set2_s, ldv_i, ldv_l, ldv_r, ldv_s, ldi_i, ldi_s, fK_0, fK_s, gfc_O, fS_0, fS_s, uH_s, uH_n, uH_u, tl_s, tl_n, b1_0, b1_1, ite_true, ite_false, if_true, if_false, List.length_nil, List.length_cons, Nat.zero_le, Nat.zero_add, Nat.reduceAdd, Nat.reduceLeDiff, Nat.reduceLT, Nat.reduceEqDiff, Nat.reduceMul, Nat.add_left_cancel_iff, not_false_eq_true, m61, m39, e1, e2, e3, e4, e5, r1, r2, r3, r4, r5]
  refine WpM_SP hin (fun w h2 _ z => ?_)
  obtain ⟨rfl, hR2, hK2⟩ := z
  simp only [jL_law_1190, w0, w1, w2i, w2r, w3, w4, w5_0, w5_1, w5_2, w5_3, w5_4, w5_5, w5_6, w5_7, w5_8, w6_0, w6_1, w7_0, w7_1, w7_2, w7_3, w7_4, w7_5, w8_0, w8_1, w9_0, w9_1, w9_2, w10_0, w10_1, w10_2, w10_3, w10_4, w10_5, w11, w12_0, w12_1, w12_2, w12_3, w12_4, w12_5, w13_0, w13_1, w13_2, w13_3, w13_4, w13_5, w14, w15i, w15r, w16, w17, w18, w19i, w19z, w19l, w20, w21, w22, w23, w24, w25, w26, w27, w28_1, w28_2, w28_3, w28_4, w28_5, w28_6, w29, w30i, w30z, w31, w32, w33, w34, w35, w36, w37_1, w37_2, w37_3, w37_4, w37_5, w37_6, isO_O, set1_0, set1_1i, set1_1r, set1_1n, set1_1l, set1_s, set2_0, set2_1i, set2_1r, set2_1n, set2_1l, set2_s, ldv_i, ldv_l, ldv_r, ldv_s, ldi_i, ldi_s, fK_0, fK_s, gfc_O, fS_0, fS_s, uH_s, uH_n, uH_u, tl_s, tl_n, b1_0, b1_1, ite_true, ite_false, if_true, if_false, List.length_nil, List.length_cons, Nat.zero_le, Nat.zero_add, Nat.reduceAdd, Nat.reduceLeDiff, Nat.reduceLT, Nat.reduceEqDiff, Nat.reduceMul, Nat.add_left_cancel_iff, not_false_eq_true, lg_cmp_eq, if_true]
  exact K h2 hR2 hK2
theorem lpz_change {h : AH} {Q : Option Value → AH → Prop} {L i : Nat} {xs : Nat → Int32} (hL : L ≤ 3072) (hi : i + 6 ≤ L) (hR : RR h) (hK : LK h) (K : ∀ h2, RR h2 → LK h2 → Wp (some (L, xs)) 144 qL_law_1190 [some (.ref 61), some (.ref 0), some (.ref 39), some (.int (nI i))] [] h2 Q) : Wp (some (L, xs)) 144 qL_law_579 [some (.ref 61), some (.ref 0), some (.ref 39), some (.int (nI i))] [] h Q := by
  obtain ⟨k61, ⟨f0, k0⟩, f39, k39⟩ := id hK
  have e1 : nI i + 1 = nI (i + 1) := nI_add i 1
  have e2 : nI i + 2 = nI (i + 2) := nI_add i 2
  have e3 : nI i + 3 = nI (i + 3) := nI_add i 3
  have e4 : nI i + 4 = nI (i + 4) := nI_add i 4
  have e5 : nI i + 5 = nI (i + 5) := nI_add i 5
  have r1 := fun (K : Int32 → Prop) => rIs (xs := xs) (K := K) (show i + 1 < L by omega) hL
  have r2 := fun (K : Int32 → Prop) => rIs (xs := xs) (K := K) (show i + 2 < L by omega) hL
  have r3 := fun (K : Int32 → Prop) => rIs (xs := xs) (K := K) (show i + 3 < L by omega) hL
  have r4 := fun (K : Int32 → Prop) => rIs (xs := xs) (K := K) (show i + 4 < L by omega) hL
  have r5 := fun (K : Int32 → Prop) => rIs (xs := xs) (K := K) (show i + 5 < L by omega) hL
  rw [qL_law_579]
  simp only [w0, w1, w2i, w2r, w3, w4, w5_0, w5_1, w5_2, w5_3, w5_4, w5_5, w5_6, w5_7, w5_8, w6_0, w6_1, w7_0, w7_1, w7_2, w7_3, w7_4, w7_5, w8_0, w8_1, w9_0, w9_1, w9_2, w10_0, w10_1, w10_2, w10_3, w10_4, w10_5, w11, w12_0, w12_1, w12_2, w12_3, w12_4, w12_5, w13_0, w13_1, w13_2, w13_3, w13_4, w13_5, w14, w15i, w15r, w16, w17, w18, w19i, w19z, w19l, w20, w21, w22, w23, w24, w25, w26, w27, w28_1, w28_2, w28_3, w28_4, w28_5, w28_6, w29, w30i, w30z, w31, w32, w33, w34, w35, w36, w37_1, w37_2, w37_3, w37_4, w37_5, w37_6, isO_O, set1_0, set1_1i, set1_1r, set1_1n, set1_1l, set1_s, set2_0, set2_1i, set2_1r, set2_1n, set2_1l, set2_s, ldv_i, ldv_l, ldv_r, ldv_s, ldi_i, ldi_s, fK_0, fK_s, gfc_O, fS_0, fS_s, uH_s, uH_n, uH_u, tl_s, tl_n, b1_0, b1_1, ite_true, ite_false, if_true, if_false, List.length_nil, List.length_cons, Nat.zero_le, Nat.zero_add, Nat.reduceAdd, Nat.reduceLeDiff, Nat.reduceLT, Nat.reduceEqDiff, Nat.reduceMul, Nat.add_left_cancel_iff, not_false_eq_true, k61, k0, e1, e2, e3, e4, e5, r1, r2, r3, r4, r5]
  refine pairL (P_change (xs (i + 1)) (xs (i + 2)) (xs (i + 3)) (xs (i + 4)) (xs (i + 5))) hR hK (fun x h1 hK1 hin => ?_)
  obtain ⟨m61, ⟨g0, m0⟩, g39, m39⟩ := id hK1
  simp only [w0, w1, w2i, w2r, w3, w4, w5_0, w5_1, w5_2, w5_3, w5_4, w5_5, w5_6, w5_7, w5_8, w6_0, w6_1, w7_0, w7_1, w7_2, w7_3, w7_4, w7_5, w8_0, w8_1, w9_0, w9_1, w9_2, w10_0, w10_1, w10_2, w10_3, w10_4, w10_5, w11, w12_0, w12_1, w12_2, w12_3, w12_4, w12_5, w13_0, w13_1, w13_2, w13_3, w13_4, w13_5, w14, w15i, w15r, w16, w17, w18, w19i, w19z, w19l, w20, w21, w22, w23, w24, w25, w26, w27, w28_1, w28_2, w28_3, w28_4, w28_5, w28_6, w29, w30i, w30z, w31, w32, w33, w34, w35, w36, w37_1, w37_2, w37_3, w37_4, w37_5, w37_6, isO_O, set1_0, set1_1i, set1_1r, set1_1n, set1_1l, set1_s, set2_0, set2_1i, set2_1r, set2_1n, set2_1l, set2_s, ldv_i, ldv_l, ldv_r, ldv_s, ldi_i, ldi_s, fK_0, fK_s, gfc_O, fS_0, fS_s, uH_s, uH_n, uH_u, tl_s, tl_n, b1_0, b1_1, ite_true, ite_false, if_true, if_false, List.length_nil, List.length_cons, Nat.zero_le, Nat.zero_add, Nat.reduceAdd, Nat.reduceLeDiff, Nat.reduceLT, Nat.reduceEqDiff, Nat.reduceMul, Nat.add_left_cancel_iff, not_false_eq_true, m61, m39, e1, e2, e3, e4, e5, r1, r2, r3, r4, r5]
  refine WpM_SP hin (fun w h2 _ z => ?_)
  obtain ⟨rfl, hR2, hK2⟩ := z
  simp only [jL_law_1190, w0, w1, w2i, w2r, w3, w4, w5_0, w5_1, w5_2, w5_3, w5_4, w5_5, w5_6, w5_7, w5_8, w6_0, w6_1, w7_0, w7_1, w7_2, w7_3, w7_4, w7_5, w8_0, w8_1, w9_0, w9_1, w9_2, w10_0, w10_1, w10_2, w10_3, w10_4, w10_5, w11, w12_0, w12_1, w12_2, w12_3, w12_4, w12_5, w13_0, w13_1, w13_2, w13_3, w13_4, w13_5, w14, w15i, w15r, w16, w17, w18, w19i, w19z, w19l, w20, w21, w22, w23, w24, w25, w26, w27, w28_1, w28_2, w28_3, w28_4, w28_5, w28_6, w29, w30i, w30z, w31, w32, w33, w34, w35, w36, w37_1, w37_2, w37_3, w37_4, w37_5, w37_6, isO_O, set1_0, set1_1i, set1_1r, set1_1n, set1_1l, set1_s, set2_0, set2_1i, set2_1r, set2_1n, set2_1l, set2_s, ldv_i, ldv_l, ldv_r, ldv_s, ldi_i, ldi_s, fK_0, fK_s, gfc_O, fS_0, fS_s, uH_s, uH_n, uH_u, tl_s, tl_n, b1_0, b1_1, ite_true, ite_false, if_true, if_false, List.length_nil, List.length_cons, Nat.zero_le, Nat.zero_add, Nat.reduceAdd, Nat.reduceLeDiff, Nat.reduceLT, Nat.reduceEqDiff, Nat.reduceMul, Nat.add_left_cancel_iff, not_false_eq_true, lg_cmp_eq, if_true]
  exact K h2 hR2 hK2
theorem lpz_pulled {h : AH} {Q : Option Value → AH → Prop} {L i : Nat} {xs : Nat → Int32} (hL : L ≤ 3072) (hi : i + 6 ≤ L) (hR : RR h) (hK : LK h) (K : ∀ h2, RR h2 → LK h2 → Wp (some (L, xs)) 144 qL_law_1190 [some (.ref 61), some (.ref 0), some (.ref 39), some (.int (nI i))] [] h2 Q) : Wp (some (L, xs)) 144 qL_law_643 [some (.ref 61), some (.ref 0), some (.ref 39), some (.int (nI i))] [] h Q := by
  obtain ⟨k61, ⟨f0, k0⟩, f39, k39⟩ := id hK
  have e1 : nI i + 1 = nI (i + 1) := nI_add i 1
  have e2 : nI i + 2 = nI (i + 2) := nI_add i 2
  have e3 : nI i + 3 = nI (i + 3) := nI_add i 3
  have e4 : nI i + 4 = nI (i + 4) := nI_add i 4
  have e5 : nI i + 5 = nI (i + 5) := nI_add i 5
  have r1 := fun (K : Int32 → Prop) => rIs (xs := xs) (K := K) (show i + 1 < L by omega) hL
  have r2 := fun (K : Int32 → Prop) => rIs (xs := xs) (K := K) (show i + 2 < L by omega) hL
  have r3 := fun (K : Int32 → Prop) => rIs (xs := xs) (K := K) (show i + 3 < L by omega) hL
  have r4 := fun (K : Int32 → Prop) => rIs (xs := xs) (K := K) (show i + 4 < L by omega) hL
  have r5 := fun (K : Int32 → Prop) => rIs (xs := xs) (K := K) (show i + 5 < L by omega) hL
  rw [qL_law_643]
  simp only [w0, w1, w2i, w2r, w3, w4, w5_0, w5_1, w5_2, w5_3, w5_4, w5_5, w5_6, w5_7, w5_8, w6_0, w6_1, w7_0, w7_1, w7_2, w7_3, w7_4, w7_5, w8_0, w8_1, w9_0, w9_1, w9_2, w10_0, w10_1, w10_2, w10_3, w10_4, w10_5, w11, w12_0, w12_1, w12_2, w12_3, w12_4, w12_5, w13_0, w13_1, w13_2, w13_3, w13_4, w13_5, w14, w15i, w15r, w16, w17, w18, w19i, w19z, w19l, w20, w21, w22, w23, w24, w25, w26, w27, w28_1, w28_2, w28_3, w28_4, w28_5, w28_6, w29, w30i, w30z, w31, w32, w33, w34, w35, w36, w37_1, w37_2, w37_3, w37_4, w37_5, w37_6, isO_O, set1_0, set1_1i, set1_1r, set1_1n, set1_1l, set1_s, set2_0, set2_1i, set2_1r, set2_1n, set2_1l, set2_s, ldv_i, ldv_l, ldv_r, ldv_s, ldi_i, ldi_s, fK_0, fK_s, gfc_O, fS_0, fS_s, uH_s, uH_n, uH_u, tl_s, tl_n, b1_0, b1_1, ite_true, ite_false, if_true, if_false, List.length_nil, List.length_cons, Nat.zero_le, Nat.zero_add, Nat.reduceAdd, Nat.reduceLeDiff, Nat.reduceLT, Nat.reduceEqDiff, Nat.reduceMul, Nat.add_left_cancel_iff, not_false_eq_true, k61, k0, e1, e2, e3, e4, e5, r1, r2, r3, r4, r5]
  refine pairL (P_pulled (xs (i + 1)) (xs (i + 2)) (xs (i + 3))) hR hK (fun x h1 hK1 hin => ?_)
  obtain ⟨m61, ⟨g0, m0⟩, g39, m39⟩ := id hK1
  simp only [w0, w1, w2i, w2r, w3, w4, w5_0, w5_1, w5_2, w5_3, w5_4, w5_5, w5_6, w5_7, w5_8, w6_0, w6_1, w7_0, w7_1, w7_2, w7_3, w7_4, w7_5, w8_0, w8_1, w9_0, w9_1, w9_2, w10_0, w10_1, w10_2, w10_3, w10_4, w10_5, w11, w12_0, w12_1, w12_2, w12_3, w12_4, w12_5, w13_0, w13_1, w13_2, w13_3, w13_4, w13_5, w14, w15i, w15r, w16, w17, w18, w19i, w19z, w19l, w20, w21, w22, w23, w24, w25, w26, w27, w28_1, w28_2, w28_3, w28_4, w28_5, w28_6, w29, w30i, w30z, w31, w32, w33, w34, w35, w36, w37_1, w37_2, w37_3, w37_4, w37_5, w37_6, isO_O, set1_0, set1_1i, set1_1r, set1_1n, set1_1l, set1_s, set2_0, set2_1i, set2_1r, set2_1n, set2_1l, set2_s, ldv_i, ldv_l, ldv_r, ldv_s, ldi_i, ldi_s, fK_0, fK_s, gfc_O, fS_0, fS_s, uH_s, uH_n, uH_u, tl_s, tl_n, b1_0, b1_1, ite_true, ite_false, if_true, if_false, List.length_nil, List.length_cons, Nat.zero_le, Nat.zero_add, Nat.reduceAdd, Nat.reduceLeDiff, Nat.reduceLT, Nat.reduceEqDiff, Nat.reduceMul, Nat.add_left_cancel_iff, not_false_eq_true, m61, m39, e1, e2, e3, e4, e5, r1, r2, r3, r4, r5]
  refine WpM_SP hin (fun w h2 _ z => ?_)
  obtain ⟨rfl, hR2, hK2⟩ := z
  simp only [jL_law_1190, w0, w1, w2i, w2r, w3, w4, w5_0, w5_1, w5_2, w5_3, w5_4, w5_5, w5_6, w5_7, w5_8, w6_0, w6_1, w7_0, w7_1, w7_2, w7_3, w7_4, w7_5, w8_0, w8_1, w9_0, w9_1, w9_2, w10_0, w10_1, w10_2, w10_3, w10_4, w10_5, w11, w12_0, w12_1, w12_2, w12_3, w12_4, w12_5, w13_0, w13_1, w13_2, w13_3, w13_4, w13_5, w14, w15i, w15r, w16, w17, w18, w19i, w19z, w19l, w20, w21, w22, w23, w24, w25, w26, w27, w28_1, w28_2, w28_3, w28_4, w28_5, w28_6, w29, w30i, w30z, w31, w32, w33, w34, w35, w36, w37_1, w37_2, w37_3, w37_4, w37_5, w37_6, isO_O, set1_0, set1_1i, set1_1r, set1_1n, set1_1l, set1_s, set2_0, set2_1i, set2_1r, set2_1n, set2_1l, set2_s, ldv_i, ldv_l, ldv_r, ldv_s, ldi_i, ldi_s, fK_0, fK_s, gfc_O, fS_0, fS_s, uH_s, uH_n, uH_u, tl_s, tl_n, b1_0, b1_1, ite_true, ite_false, if_true, if_false, List.length_nil, List.length_cons, Nat.zero_le, Nat.zero_add, Nat.reduceAdd, Nat.reduceLeDiff, Nat.reduceLT, Nat.reduceEqDiff, Nat.reduceMul, Nat.add_left_cancel_iff, not_false_eq_true, lg_cmp_eq, if_true]
  exact K h2 hR2 hK2
theorem lpz_year {h : AH} {Q : Option Value → AH → Prop} {L i : Nat} {xs : Nat → Int32} (hL : L ≤ 3072) (hi : i + 6 ≤ L) (hR : RR h) (hK : LK h) (K : ∀ h2, RR h2 → LK h2 → Wp (some (L, xs)) 144 qL_law_1190 [some (.ref 61), some (.ref 0), some (.ref 39), some (.int (nI i))] [] h2 Q) : Wp (some (L, xs)) 144 qL_law_687 [some (.ref 61), some (.ref 0), some (.ref 39), some (.int (nI i))] [] h Q := by
  obtain ⟨k61, ⟨f0, k0⟩, f39, k39⟩ := id hK
  have e1 : nI i + 1 = nI (i + 1) := nI_add i 1
  have e2 : nI i + 2 = nI (i + 2) := nI_add i 2
  have e3 : nI i + 3 = nI (i + 3) := nI_add i 3
  have e4 : nI i + 4 = nI (i + 4) := nI_add i 4
  have e5 : nI i + 5 = nI (i + 5) := nI_add i 5
  have r1 := fun (K : Int32 → Prop) => rIs (xs := xs) (K := K) (show i + 1 < L by omega) hL
  have r2 := fun (K : Int32 → Prop) => rIs (xs := xs) (K := K) (show i + 2 < L by omega) hL
  have r3 := fun (K : Int32 → Prop) => rIs (xs := xs) (K := K) (show i + 3 < L by omega) hL
  have r4 := fun (K : Int32 → Prop) => rIs (xs := xs) (K := K) (show i + 4 < L by omega) hL
  have r5 := fun (K : Int32 → Prop) => rIs (xs := xs) (K := K) (show i + 5 < L by omega) hL
  rw [qL_law_687]
  simp only [w0, w1, w2i, w2r, w3, w4, w5_0, w5_1, w5_2, w5_3, w5_4, w5_5, w5_6, w5_7, w5_8, w6_0, w6_1, w7_0, w7_1, w7_2, w7_3, w7_4, w7_5, w8_0, w8_1, w9_0, w9_1, w9_2, w10_0, w10_1, w10_2, w10_3, w10_4, w10_5, w11, w12_0, w12_1, w12_2, w12_3, w12_4, w12_5, w13_0, w13_1, w13_2, w13_3, w13_4, w13_5, w14, w15i, w15r, w16, w17, w18, w19i, w19z, w19l, w20, w21, w22, w23, w24, w25, w26, w27, w28_1, w28_2, w28_3, w28_4, w28_5, w28_6, w29, w30i, w30z, w31, w32, w33, w34, w35, w36, w37_1, w37_2, w37_3, w37_4, w37_5, w37_6, isO_O, set1_0, set1_1i, set1_1r, set1_1n, set1_1l, set1_s, set2_0, set2_1i, set2_1r, set2_1n, set2_1l, set2_s, ldv_i, ldv_l, ldv_r, ldv_s, ldi_i, ldi_s, fK_0, fK_s, gfc_O, fS_0, fS_s, uH_s, uH_n, uH_u, tl_s, tl_n, b1_0, b1_1, ite_true, ite_false, if_true, if_false, List.length_nil, List.length_cons, Nat.zero_le, Nat.zero_add, Nat.reduceAdd, Nat.reduceLeDiff, Nat.reduceLT, Nat.reduceEqDiff, Nat.reduceMul, Nat.add_left_cancel_iff, not_false_eq_true, k61, k0, e1, e2, e3, e4, e5, r1, r2, r3, r4, r5]
  refine pairI (P_year) hR hK (fun x h1 hK1 hin => ?_)
  obtain ⟨m61, ⟨g0, m0⟩, g39, m39⟩ := id hK1
  simp only [w0, w1, w2i, w2r, w3, w4, w5_0, w5_1, w5_2, w5_3, w5_4, w5_5, w5_6, w5_7, w5_8, w6_0, w6_1, w7_0, w7_1, w7_2, w7_3, w7_4, w7_5, w8_0, w8_1, w9_0, w9_1, w9_2, w10_0, w10_1, w10_2, w10_3, w10_4, w10_5, w11, w12_0, w12_1, w12_2, w12_3, w12_4, w12_5, w13_0, w13_1, w13_2, w13_3, w13_4, w13_5, w14, w15i, w15r, w16, w17, w18, w19i, w19z, w19l, w20, w21, w22, w23, w24, w25, w26, w27, w28_1, w28_2, w28_3, w28_4, w28_5, w28_6, w29, w30i, w30z, w31, w32, w33, w34, w35, w36, w37_1, w37_2, w37_3, w37_4, w37_5, w37_6, isO_O, set1_0, set1_1i, set1_1r, set1_1n, set1_1l, set1_s, set2_0, set2_1i, set2_1r, set2_1n, set2_1l, set2_s, ldv_i, ldv_l, ldv_r, ldv_s, ldi_i, ldi_s, fK_0, fK_s, gfc_O, fS_0, fS_s, uH_s, uH_n, uH_u, tl_s, tl_n, b1_0, b1_1, ite_true, ite_false, if_true, if_false, List.length_nil, List.length_cons, Nat.zero_le, Nat.zero_add, Nat.reduceAdd, Nat.reduceLeDiff, Nat.reduceLT, Nat.reduceEqDiff, Nat.reduceMul, Nat.add_left_cancel_iff, not_false_eq_true, m61, m39, e1, e2, e3, e4, e5, r1, r2, r3, r4, r5]
  refine WpM_SP hin (fun w h2 _ z => ?_)
  obtain ⟨rfl, hR2, hK2⟩ := z
  simp only [jL_law_1190, w0, w1, w2i, w2r, w3, w4, w5_0, w5_1, w5_2, w5_3, w5_4, w5_5, w5_6, w5_7, w5_8, w6_0, w6_1, w7_0, w7_1, w7_2, w7_3, w7_4, w7_5, w8_0, w8_1, w9_0, w9_1, w9_2, w10_0, w10_1, w10_2, w10_3, w10_4, w10_5, w11, w12_0, w12_1, w12_2, w12_3, w12_4, w12_5, w13_0, w13_1, w13_2, w13_3, w13_4, w13_5, w14, w15i, w15r, w16, w17, w18, w19i, w19z, w19l, w20, w21, w22, w23, w24, w25, w26, w27, w28_1, w28_2, w28_3, w28_4, w28_5, w28_6, w29, w30i, w30z, w31, w32, w33, w34, w35, w36, w37_1, w37_2, w37_3, w37_4, w37_5, w37_6, isO_O, set1_0, set1_1i, set1_1r, set1_1n, set1_1l, set1_s, set2_0, set2_1i, set2_1r, set2_1n, set2_1l, set2_s, ldv_i, ldv_l, ldv_r, ldv_s, ldi_i, ldi_s, fK_0, fK_s, gfc_O, fS_0, fS_s, uH_s, uH_n, uH_u, tl_s, tl_n, b1_0, b1_1, ite_true, ite_false, if_true, if_false, List.length_nil, List.length_cons, Nat.zero_le, Nat.zero_add, Nat.reduceAdd, Nat.reduceLeDiff, Nat.reduceLT, Nat.reduceEqDiff, Nat.reduceMul, Nat.add_left_cancel_iff, not_false_eq_true, if_true]
  exact K h2 hR2 hK2
theorem lpz_near {h : AH} {Q : Option Value → AH → Prop} {L i : Nat} {xs : Nat → Int32} (hL : L ≤ 3072) (hi : i + 6 ≤ L) (hR : RR h) (hK : LK h) (K : ∀ h2, RR h2 → LK h2 → Wp (some (L, xs)) 144 qL_law_1190 [some (.ref 61), some (.ref 0), some (.ref 39), some (.int (nI i))] [] h2 Q) : Wp (some (L, xs)) 144 qL_law_700 [some (.ref 61), some (.ref 0), some (.ref 39), some (.int (nI i))] [] h Q := by
  obtain ⟨k61, ⟨f0, k0⟩, f39, k39⟩ := id hK
  have e1 : nI i + 1 = nI (i + 1) := nI_add i 1
  have e2 : nI i + 2 = nI (i + 2) := nI_add i 2
  have e3 : nI i + 3 = nI (i + 3) := nI_add i 3
  have e4 : nI i + 4 = nI (i + 4) := nI_add i 4
  have e5 : nI i + 5 = nI (i + 5) := nI_add i 5
  have r1 := fun (K : Int32 → Prop) => rIs (xs := xs) (K := K) (show i + 1 < L by omega) hL
  have r2 := fun (K : Int32 → Prop) => rIs (xs := xs) (K := K) (show i + 2 < L by omega) hL
  have r3 := fun (K : Int32 → Prop) => rIs (xs := xs) (K := K) (show i + 3 < L by omega) hL
  have r4 := fun (K : Int32 → Prop) => rIs (xs := xs) (K := K) (show i + 4 < L by omega) hL
  have r5 := fun (K : Int32 → Prop) => rIs (xs := xs) (K := K) (show i + 5 < L by omega) hL
  rw [qL_law_700]
  simp only [w0, w1, w2i, w2r, w3, w4, w5_0, w5_1, w5_2, w5_3, w5_4, w5_5, w5_6, w5_7, w5_8, w6_0, w6_1, w7_0, w7_1, w7_2, w7_3, w7_4, w7_5, w8_0, w8_1, w9_0, w9_1, w9_2, w10_0, w10_1, w10_2, w10_3, w10_4, w10_5, w11, w12_0, w12_1, w12_2, w12_3, w12_4, w12_5, w13_0, w13_1, w13_2, w13_3, w13_4, w13_5, w14, w15i, w15r, w16, w17, w18, w19i, w19z, w19l, w20, w21, w22, w23, w24, w25, w26, w27, w28_1, w28_2, w28_3, w28_4, w28_5, w28_6, w29, w30i, w30z, w31, w32, w33, w34, w35, w36, w37_1, w37_2, w37_3, w37_4, w37_5, w37_6, isO_O, set1_0, set1_1i, set1_1r, set1_1n, set1_1l, set1_s, set2_0, set2_1i, set2_1r, set2_1n, set2_1l, set2_s, ldv_i, ldv_l, ldv_r, ldv_s, ldi_i, ldi_s, fK_0, fK_s, gfc_O, fS_0, fS_s, uH_s, uH_n, uH_u, tl_s, tl_n, b1_0, b1_1, ite_true, ite_false, if_true, if_false, List.length_nil, List.length_cons, Nat.zero_le, Nat.zero_add, Nat.reduceAdd, Nat.reduceLeDiff, Nat.reduceLT, Nat.reduceEqDiff, Nat.reduceMul, Nat.add_left_cancel_iff, not_false_eq_true, k61, k0, e1, e2, e3, e4, e5, r1, r2, r3, r4, r5]
  refine pairI (P_near (xs (i + 1))) hR hK (fun x h1 hK1 hin => ?_)
  obtain ⟨m61, ⟨g0, m0⟩, g39, m39⟩ := id hK1
  simp only [w0, w1, w2i, w2r, w3, w4, w5_0, w5_1, w5_2, w5_3, w5_4, w5_5, w5_6, w5_7, w5_8, w6_0, w6_1, w7_0, w7_1, w7_2, w7_3, w7_4, w7_5, w8_0, w8_1, w9_0, w9_1, w9_2, w10_0, w10_1, w10_2, w10_3, w10_4, w10_5, w11, w12_0, w12_1, w12_2, w12_3, w12_4, w12_5, w13_0, w13_1, w13_2, w13_3, w13_4, w13_5, w14, w15i, w15r, w16, w17, w18, w19i, w19z, w19l, w20, w21, w22, w23, w24, w25, w26, w27, w28_1, w28_2, w28_3, w28_4, w28_5, w28_6, w29, w30i, w30z, w31, w32, w33, w34, w35, w36, w37_1, w37_2, w37_3, w37_4, w37_5, w37_6, isO_O, set1_0, set1_1i, set1_1r, set1_1n, set1_1l, set1_s, set2_0, set2_1i, set2_1r, set2_1n, set2_1l, set2_s, ldv_i, ldv_l, ldv_r, ldv_s, ldi_i, ldi_s, fK_0, fK_s, gfc_O, fS_0, fS_s, uH_s, uH_n, uH_u, tl_s, tl_n, b1_0, b1_1, ite_true, ite_false, if_true, if_false, List.length_nil, List.length_cons, Nat.zero_le, Nat.zero_add, Nat.reduceAdd, Nat.reduceLeDiff, Nat.reduceLT, Nat.reduceEqDiff, Nat.reduceMul, Nat.add_left_cancel_iff, not_false_eq_true, m61, m39, e1, e2, e3, e4, e5, r1, r2, r3, r4, r5]
  refine WpM_SP hin (fun w h2 _ z => ?_)
  obtain ⟨rfl, hR2, hK2⟩ := z
  simp only [jL_law_1190, w0, w1, w2i, w2r, w3, w4, w5_0, w5_1, w5_2, w5_3, w5_4, w5_5, w5_6, w5_7, w5_8, w6_0, w6_1, w7_0, w7_1, w7_2, w7_3, w7_4, w7_5, w8_0, w8_1, w9_0, w9_1, w9_2, w10_0, w10_1, w10_2, w10_3, w10_4, w10_5, w11, w12_0, w12_1, w12_2, w12_3, w12_4, w12_5, w13_0, w13_1, w13_2, w13_3, w13_4, w13_5, w14, w15i, w15r, w16, w17, w18, w19i, w19z, w19l, w20, w21, w22, w23, w24, w25, w26, w27, w28_1, w28_2, w28_3, w28_4, w28_5, w28_6, w29, w30i, w30z, w31, w32, w33, w34, w35, w36, w37_1, w37_2, w37_3, w37_4, w37_5, w37_6, isO_O, set1_0, set1_1i, set1_1r, set1_1n, set1_1l, set1_s, set2_0, set2_1i, set2_1r, set2_1n, set2_1l, set2_s, ldv_i, ldv_l, ldv_r, ldv_s, ldi_i, ldi_s, fK_0, fK_s, gfc_O, fS_0, fS_s, uH_s, uH_n, uH_u, tl_s, tl_n, b1_0, b1_1, ite_true, ite_false, if_true, if_false, List.length_nil, List.length_cons, Nat.zero_le, Nat.zero_add, Nat.reduceAdd, Nat.reduceLeDiff, Nat.reduceLT, Nat.reduceEqDiff, Nat.reduceMul, Nat.add_left_cancel_iff, not_false_eq_true, if_true]
  exact K h2 hR2 hK2
theorem lpz_income {h : AH} {Q : Option Value → AH → Prop} {L i : Nat} {xs : Nat → Int32} (hL : L ≤ 3072) (hi : i + 6 ≤ L) (hR : RR h) (hK : LK h) (K : ∀ h2, RR h2 → LK h2 → Wp (some (L, xs)) 144 qL_law_1190 [some (.ref 61), some (.ref 0), some (.ref 39), some (.int (nI i))] [] h2 Q) : Wp (some (L, xs)) 144 qL_law_723 [some (.ref 61), some (.ref 0), some (.ref 39), some (.int (nI i))] [] h Q := by
  obtain ⟨k61, ⟨f0, k0⟩, f39, k39⟩ := id hK
  have e1 : nI i + 1 = nI (i + 1) := nI_add i 1
  have e2 : nI i + 2 = nI (i + 2) := nI_add i 2
  have e3 : nI i + 3 = nI (i + 3) := nI_add i 3
  have e4 : nI i + 4 = nI (i + 4) := nI_add i 4
  have e5 : nI i + 5 = nI (i + 5) := nI_add i 5
  have r1 := fun (K : Int32 → Prop) => rIs (xs := xs) (K := K) (show i + 1 < L by omega) hL
  have r2 := fun (K : Int32 → Prop) => rIs (xs := xs) (K := K) (show i + 2 < L by omega) hL
  have r3 := fun (K : Int32 → Prop) => rIs (xs := xs) (K := K) (show i + 3 < L by omega) hL
  have r4 := fun (K : Int32 → Prop) => rIs (xs := xs) (K := K) (show i + 4 < L by omega) hL
  have r5 := fun (K : Int32 → Prop) => rIs (xs := xs) (K := K) (show i + 5 < L by omega) hL
  rw [qL_law_723]
  simp only [w0, w1, w2i, w2r, w3, w4, w5_0, w5_1, w5_2, w5_3, w5_4, w5_5, w5_6, w5_7, w5_8, w6_0, w6_1, w7_0, w7_1, w7_2, w7_3, w7_4, w7_5, w8_0, w8_1, w9_0, w9_1, w9_2, w10_0, w10_1, w10_2, w10_3, w10_4, w10_5, w11, w12_0, w12_1, w12_2, w12_3, w12_4, w12_5, w13_0, w13_1, w13_2, w13_3, w13_4, w13_5, w14, w15i, w15r, w16, w17, w18, w19i, w19z, w19l, w20, w21, w22, w23, w24, w25, w26, w27, w28_1, w28_2, w28_3, w28_4, w28_5, w28_6, w29, w30i, w30z, w31, w32, w33, w34, w35, w36, w37_1, w37_2, w37_3, w37_4, w37_5, w37_6, isO_O, set1_0, set1_1i, set1_1r, set1_1n, set1_1l, set1_s, set2_0, set2_1i, set2_1r, set2_1n, set2_1l, set2_s, ldv_i, ldv_l, ldv_r, ldv_s, ldi_i, ldi_s, fK_0, fK_s, gfc_O, fS_0, fS_s, uH_s, uH_n, uH_u, tl_s, tl_n, b1_0, b1_1, ite_true, ite_false, if_true, if_false, List.length_nil, List.length_cons, Nat.zero_le, Nat.zero_add, Nat.reduceAdd, Nat.reduceLeDiff, Nat.reduceLT, Nat.reduceEqDiff, Nat.reduceMul, Nat.add_left_cancel_iff, not_false_eq_true, k61, k0, e1, e2, e3, e4, e5, r1, r2, r3, r4, r5]
  refine pairL (P_income (xs (i + 1)) (xs (i + 2))) hR hK (fun x h1 hK1 hin => ?_)
  obtain ⟨m61, ⟨g0, m0⟩, g39, m39⟩ := id hK1
  simp only [w0, w1, w2i, w2r, w3, w4, w5_0, w5_1, w5_2, w5_3, w5_4, w5_5, w5_6, w5_7, w5_8, w6_0, w6_1, w7_0, w7_1, w7_2, w7_3, w7_4, w7_5, w8_0, w8_1, w9_0, w9_1, w9_2, w10_0, w10_1, w10_2, w10_3, w10_4, w10_5, w11, w12_0, w12_1, w12_2, w12_3, w12_4, w12_5, w13_0, w13_1, w13_2, w13_3, w13_4, w13_5, w14, w15i, w15r, w16, w17, w18, w19i, w19z, w19l, w20, w21, w22, w23, w24, w25, w26, w27, w28_1, w28_2, w28_3, w28_4, w28_5, w28_6, w29, w30i, w30z, w31, w32, w33, w34, w35, w36, w37_1, w37_2, w37_3, w37_4, w37_5, w37_6, isO_O, set1_0, set1_1i, set1_1r, set1_1n, set1_1l, set1_s, set2_0, set2_1i, set2_1r, set2_1n, set2_1l, set2_s, ldv_i, ldv_l, ldv_r, ldv_s, ldi_i, ldi_s, fK_0, fK_s, gfc_O, fS_0, fS_s, uH_s, uH_n, uH_u, tl_s, tl_n, b1_0, b1_1, ite_true, ite_false, if_true, if_false, List.length_nil, List.length_cons, Nat.zero_le, Nat.zero_add, Nat.reduceAdd, Nat.reduceLeDiff, Nat.reduceLT, Nat.reduceEqDiff, Nat.reduceMul, Nat.add_left_cancel_iff, not_false_eq_true, m61, m39, e1, e2, e3, e4, e5, r1, r2, r3, r4, r5]
  refine WpM_SP hin (fun w h2 _ z => ?_)
  obtain ⟨rfl, hR2, hK2⟩ := z
  simp only [jL_law_1190, w0, w1, w2i, w2r, w3, w4, w5_0, w5_1, w5_2, w5_3, w5_4, w5_5, w5_6, w5_7, w5_8, w6_0, w6_1, w7_0, w7_1, w7_2, w7_3, w7_4, w7_5, w8_0, w8_1, w9_0, w9_1, w9_2, w10_0, w10_1, w10_2, w10_3, w10_4, w10_5, w11, w12_0, w12_1, w12_2, w12_3, w12_4, w12_5, w13_0, w13_1, w13_2, w13_3, w13_4, w13_5, w14, w15i, w15r, w16, w17, w18, w19i, w19z, w19l, w20, w21, w22, w23, w24, w25, w26, w27, w28_1, w28_2, w28_3, w28_4, w28_5, w28_6, w29, w30i, w30z, w31, w32, w33, w34, w35, w36, w37_1, w37_2, w37_3, w37_4, w37_5, w37_6, isO_O, set1_0, set1_1i, set1_1r, set1_1n, set1_1l, set1_s, set2_0, set2_1i, set2_1r, set2_1n, set2_1l, set2_s, ldv_i, ldv_l, ldv_r, ldv_s, ldi_i, ldi_s, fK_0, fK_s, gfc_O, fS_0, fS_s, uH_s, uH_n, uH_u, tl_s, tl_n, b1_0, b1_1, ite_true, ite_false, if_true, if_false, List.length_nil, List.length_cons, Nat.zero_le, Nat.zero_add, Nat.reduceAdd, Nat.reduceLeDiff, Nat.reduceLT, Nat.reduceEqDiff, Nat.reduceMul, Nat.add_left_cancel_iff, not_false_eq_true, lg_cmp_eq, if_true]
  exact K h2 hR2 hK2
theorem lpz_best {h : AH} {Q : Option Value → AH → Prop} {L i : Nat} {xs : Nat → Int32} (hL : L ≤ 3072) (hi : i + 6 ≤ L) (hR : RR h) (hK : LK h) (K : ∀ h2, RR h2 → LK h2 → Wp (some (L, xs)) 144 qL_law_1190 [some (.ref 61), some (.ref 0), some (.ref 39), some (.int (nI i))] [] h2 Q) : Wp (some (L, xs)) 144 qL_law_757 [some (.ref 61), some (.ref 0), some (.ref 39), some (.int (nI i))] [] h Q := by
  obtain ⟨k61, ⟨f0, k0⟩, f39, k39⟩ := id hK
  have e1 : nI i + 1 = nI (i + 1) := nI_add i 1
  have e2 : nI i + 2 = nI (i + 2) := nI_add i 2
  have e3 : nI i + 3 = nI (i + 3) := nI_add i 3
  have e4 : nI i + 4 = nI (i + 4) := nI_add i 4
  have e5 : nI i + 5 = nI (i + 5) := nI_add i 5
  have r1 := fun (K : Int32 → Prop) => rIs (xs := xs) (K := K) (show i + 1 < L by omega) hL
  have r2 := fun (K : Int32 → Prop) => rIs (xs := xs) (K := K) (show i + 2 < L by omega) hL
  have r3 := fun (K : Int32 → Prop) => rIs (xs := xs) (K := K) (show i + 3 < L by omega) hL
  have r4 := fun (K : Int32 → Prop) => rIs (xs := xs) (K := K) (show i + 4 < L by omega) hL
  have r5 := fun (K : Int32 → Prop) => rIs (xs := xs) (K := K) (show i + 5 < L by omega) hL
  rw [qL_law_757]
  simp only [w0, w1, w2i, w2r, w3, w4, w5_0, w5_1, w5_2, w5_3, w5_4, w5_5, w5_6, w5_7, w5_8, w6_0, w6_1, w7_0, w7_1, w7_2, w7_3, w7_4, w7_5, w8_0, w8_1, w9_0, w9_1, w9_2, w10_0, w10_1, w10_2, w10_3, w10_4, w10_5, w11, w12_0, w12_1, w12_2, w12_3, w12_4, w12_5, w13_0, w13_1, w13_2, w13_3, w13_4, w13_5, w14, w15i, w15r, w16, w17, w18, w19i, w19z, w19l, w20, w21, w22, w23, w24, w25, w26, w27, w28_1, w28_2, w28_3, w28_4, w28_5, w28_6, w29, w30i, w30z, w31, w32, w33, w34, w35, w36, w37_1, w37_2, w37_3, w37_4, w37_5, w37_6, isO_O, set1_0, set1_1i, set1_1r, set1_1n, set1_1l, set1_s, set2_0, set2_1i, set2_1r, set2_1n, set2_1l, set2_s, ldv_i, ldv_l, ldv_r, ldv_s, ldi_i, ldi_s, fK_0, fK_s, gfc_O, fS_0, fS_s, uH_s, uH_n, uH_u, tl_s, tl_n, b1_0, b1_1, ite_true, ite_false, if_true, if_false, List.length_nil, List.length_cons, Nat.zero_le, Nat.zero_add, Nat.reduceAdd, Nat.reduceLeDiff, Nat.reduceLT, Nat.reduceEqDiff, Nat.reduceMul, Nat.add_left_cancel_iff, not_false_eq_true, k61, k0, e1, e2, e3, e4, e5, r1, r2, r3, r4, r5]
  refine pairI (P_best (xs (i + 1))) hR hK (fun x h1 hK1 hin => ?_)
  obtain ⟨m61, ⟨g0, m0⟩, g39, m39⟩ := id hK1
  simp only [w0, w1, w2i, w2r, w3, w4, w5_0, w5_1, w5_2, w5_3, w5_4, w5_5, w5_6, w5_7, w5_8, w6_0, w6_1, w7_0, w7_1, w7_2, w7_3, w7_4, w7_5, w8_0, w8_1, w9_0, w9_1, w9_2, w10_0, w10_1, w10_2, w10_3, w10_4, w10_5, w11, w12_0, w12_1, w12_2, w12_3, w12_4, w12_5, w13_0, w13_1, w13_2, w13_3, w13_4, w13_5, w14, w15i, w15r, w16, w17, w18, w19i, w19z, w19l, w20, w21, w22, w23, w24, w25, w26, w27, w28_1, w28_2, w28_3, w28_4, w28_5, w28_6, w29, w30i, w30z, w31, w32, w33, w34, w35, w36, w37_1, w37_2, w37_3, w37_4, w37_5, w37_6, isO_O, set1_0, set1_1i, set1_1r, set1_1n, set1_1l, set1_s, set2_0, set2_1i, set2_1r, set2_1n, set2_1l, set2_s, ldv_i, ldv_l, ldv_r, ldv_s, ldi_i, ldi_s, fK_0, fK_s, gfc_O, fS_0, fS_s, uH_s, uH_n, uH_u, tl_s, tl_n, b1_0, b1_1, ite_true, ite_false, if_true, if_false, List.length_nil, List.length_cons, Nat.zero_le, Nat.zero_add, Nat.reduceAdd, Nat.reduceLeDiff, Nat.reduceLT, Nat.reduceEqDiff, Nat.reduceMul, Nat.add_left_cancel_iff, not_false_eq_true, m61, m39, e1, e2, e3, e4, e5, r1, r2, r3, r4, r5]
  refine WpM_SP hin (fun w h2 _ z => ?_)
  obtain ⟨rfl, hR2, hK2⟩ := z
  simp only [jL_law_1190, w0, w1, w2i, w2r, w3, w4, w5_0, w5_1, w5_2, w5_3, w5_4, w5_5, w5_6, w5_7, w5_8, w6_0, w6_1, w7_0, w7_1, w7_2, w7_3, w7_4, w7_5, w8_0, w8_1, w9_0, w9_1, w9_2, w10_0, w10_1, w10_2, w10_3, w10_4, w10_5, w11, w12_0, w12_1, w12_2, w12_3, w12_4, w12_5, w13_0, w13_1, w13_2, w13_3, w13_4, w13_5, w14, w15i, w15r, w16, w17, w18, w19i, w19z, w19l, w20, w21, w22, w23, w24, w25, w26, w27, w28_1, w28_2, w28_3, w28_4, w28_5, w28_6, w29, w30i, w30z, w31, w32, w33, w34, w35, w36, w37_1, w37_2, w37_3, w37_4, w37_5, w37_6, isO_O, set1_0, set1_1i, set1_1r, set1_1n, set1_1l, set1_s, set2_0, set2_1i, set2_1r, set2_1n, set2_1l, set2_s, ldv_i, ldv_l, ldv_r, ldv_s, ldi_i, ldi_s, fK_0, fK_s, gfc_O, fS_0, fS_s, uH_s, uH_n, uH_u, tl_s, tl_n, b1_0, b1_1, ite_true, ite_false, if_true, if_false, List.length_nil, List.length_cons, Nat.zero_le, Nat.zero_add, Nat.reduceAdd, Nat.reduceLeDiff, Nat.reduceLT, Nat.reduceEqDiff, Nat.reduceMul, Nat.add_left_cancel_iff, not_false_eq_true, if_true]
  exact K h2 hR2 hK2
theorem lpz_rests {h : AH} {Q : Option Value → AH → Prop} {L i : Nat} {xs : Nat → Int32} (hL : L ≤ 3072) (hi : i + 6 ≤ L) (hR : RR h) (hK : LK h) (K : ∀ h2, RR h2 → LK h2 → Wp (some (L, xs)) 144 qL_law_1190 [some (.ref 61), some (.ref 0), some (.ref 39), some (.int (nI i))] [] h2 Q) : Wp (some (L, xs)) 144 qL_law_780 [some (.ref 61), some (.ref 0), some (.ref 39), some (.int (nI i))] [] h Q := by
  obtain ⟨k61, ⟨f0, k0⟩, f39, k39⟩ := id hK
  have e1 : nI i + 1 = nI (i + 1) := nI_add i 1
  have e2 : nI i + 2 = nI (i + 2) := nI_add i 2
  have e3 : nI i + 3 = nI (i + 3) := nI_add i 3
  have e4 : nI i + 4 = nI (i + 4) := nI_add i 4
  have e5 : nI i + 5 = nI (i + 5) := nI_add i 5
  have r1 := fun (K : Int32 → Prop) => rIs (xs := xs) (K := K) (show i + 1 < L by omega) hL
  have r2 := fun (K : Int32 → Prop) => rIs (xs := xs) (K := K) (show i + 2 < L by omega) hL
  have r3 := fun (K : Int32 → Prop) => rIs (xs := xs) (K := K) (show i + 3 < L by omega) hL
  have r4 := fun (K : Int32 → Prop) => rIs (xs := xs) (K := K) (show i + 4 < L by omega) hL
  have r5 := fun (K : Int32 → Prop) => rIs (xs := xs) (K := K) (show i + 5 < L by omega) hL
  rw [qL_law_780]
  simp only [w0, w1, w2i, w2r, w3, w4, w5_0, w5_1, w5_2, w5_3, w5_4, w5_5, w5_6, w5_7, w5_8, w6_0, w6_1, w7_0, w7_1, w7_2, w7_3, w7_4, w7_5, w8_0, w8_1, w9_0, w9_1, w9_2, w10_0, w10_1, w10_2, w10_3, w10_4, w10_5, w11, w12_0, w12_1, w12_2, w12_3, w12_4, w12_5, w13_0, w13_1, w13_2, w13_3, w13_4, w13_5, w14, w15i, w15r, w16, w17, w18, w19i, w19z, w19l, w20, w21, w22, w23, w24, w25, w26, w27, w28_1, w28_2, w28_3, w28_4, w28_5, w28_6, w29, w30i, w30z, w31, w32, w33, w34, w35, w36, w37_1, w37_2, w37_3, w37_4, w37_5, w37_6, isO_O, set1_0, set1_1i, set1_1r, set1_1n, set1_1l, set1_s, set2_0, set2_1i, set2_1r, set2_1n, set2_1l, set2_s, ldv_i, ldv_l, ldv_r, ldv_s, ldi_i, ldi_s, fK_0, fK_s, gfc_O, fS_0, fS_s, uH_s, uH_n, uH_u, tl_s, tl_n, b1_0, b1_1, ite_true, ite_false, if_true, if_false, List.length_nil, List.length_cons, Nat.zero_le, Nat.zero_add, Nat.reduceAdd, Nat.reduceLeDiff, Nat.reduceLT, Nat.reduceEqDiff, Nat.reduceMul, Nat.add_left_cancel_iff, not_false_eq_true, k61, k0, e1, e2, e3, e4, e5, r1, r2, r3, r4, r5]
  refine pairI (P_rests (xs (i + 1)) (xs (i + 2)) (xs (i + 3))) hR hK (fun x h1 hK1 hin => ?_)
  obtain ⟨m61, ⟨g0, m0⟩, g39, m39⟩ := id hK1
  simp only [w0, w1, w2i, w2r, w3, w4, w5_0, w5_1, w5_2, w5_3, w5_4, w5_5, w5_6, w5_7, w5_8, w6_0, w6_1, w7_0, w7_1, w7_2, w7_3, w7_4, w7_5, w8_0, w8_1, w9_0, w9_1, w9_2, w10_0, w10_1, w10_2, w10_3, w10_4, w10_5, w11, w12_0, w12_1, w12_2, w12_3, w12_4, w12_5, w13_0, w13_1, w13_2, w13_3, w13_4, w13_5, w14, w15i, w15r, w16, w17, w18, w19i, w19z, w19l, w20, w21, w22, w23, w24, w25, w26, w27, w28_1, w28_2, w28_3, w28_4, w28_5, w28_6, w29, w30i, w30z, w31, w32, w33, w34, w35, w36, w37_1, w37_2, w37_3, w37_4, w37_5, w37_6, isO_O, set1_0, set1_1i, set1_1r, set1_1n, set1_1l, set1_s, set2_0, set2_1i, set2_1r, set2_1n, set2_1l, set2_s, ldv_i, ldv_l, ldv_r, ldv_s, ldi_i, ldi_s, fK_0, fK_s, gfc_O, fS_0, fS_s, uH_s, uH_n, uH_u, tl_s, tl_n, b1_0, b1_1, ite_true, ite_false, if_true, if_false, List.length_nil, List.length_cons, Nat.zero_le, Nat.zero_add, Nat.reduceAdd, Nat.reduceLeDiff, Nat.reduceLT, Nat.reduceEqDiff, Nat.reduceMul, Nat.add_left_cancel_iff, not_false_eq_true, m61, m39, e1, e2, e3, e4, e5, r1, r2, r3, r4, r5]
  refine WpM_SP hin (fun w h2 _ z => ?_)
  obtain ⟨rfl, hR2, hK2⟩ := z
  simp only [jL_law_1190, w0, w1, w2i, w2r, w3, w4, w5_0, w5_1, w5_2, w5_3, w5_4, w5_5, w5_6, w5_7, w5_8, w6_0, w6_1, w7_0, w7_1, w7_2, w7_3, w7_4, w7_5, w8_0, w8_1, w9_0, w9_1, w9_2, w10_0, w10_1, w10_2, w10_3, w10_4, w10_5, w11, w12_0, w12_1, w12_2, w12_3, w12_4, w12_5, w13_0, w13_1, w13_2, w13_3, w13_4, w13_5, w14, w15i, w15r, w16, w17, w18, w19i, w19z, w19l, w20, w21, w22, w23, w24, w25, w26, w27, w28_1, w28_2, w28_3, w28_4, w28_5, w28_6, w29, w30i, w30z, w31, w32, w33, w34, w35, w36, w37_1, w37_2, w37_3, w37_4, w37_5, w37_6, isO_O, set1_0, set1_1i, set1_1r, set1_1n, set1_1l, set1_s, set2_0, set2_1i, set2_1r, set2_1n, set2_1l, set2_s, ldv_i, ldv_l, ldv_r, ldv_s, ldi_i, ldi_s, fK_0, fK_s, gfc_O, fS_0, fS_s, uH_s, uH_n, uH_u, tl_s, tl_n, b1_0, b1_1, ite_true, ite_false, if_true, if_false, List.length_nil, List.length_cons, Nat.zero_le, Nat.zero_add, Nat.reduceAdd, Nat.reduceLeDiff, Nat.reduceLT, Nat.reduceEqDiff, Nat.reduceMul, Nat.add_left_cancel_iff, not_false_eq_true, if_true]
  exact K h2 hR2 hK2
theorem lpz_bought {h : AH} {Q : Option Value → AH → Prop} {L i : Nat} {xs : Nat → Int32} (hL : L ≤ 3072) (hi : i + 6 ≤ L) (hR : RR h) (hK : LK h) (K : ∀ h2, RR h2 → LK h2 → Wp (some (L, xs)) 144 qL_law_1190 [some (.ref 61), some (.ref 0), some (.ref 39), some (.int (nI i))] [] h2 Q) : Wp (some (L, xs)) 144 qL_law_823 [some (.ref 61), some (.ref 0), some (.ref 39), some (.int (nI i))] [] h Q := by
  obtain ⟨k61, ⟨f0, k0⟩, f39, k39⟩ := id hK
  have e1 : nI i + 1 = nI (i + 1) := nI_add i 1
  have e2 : nI i + 2 = nI (i + 2) := nI_add i 2
  have e3 : nI i + 3 = nI (i + 3) := nI_add i 3
  have e4 : nI i + 4 = nI (i + 4) := nI_add i 4
  have e5 : nI i + 5 = nI (i + 5) := nI_add i 5
  have r1 := fun (K : Int32 → Prop) => rIs (xs := xs) (K := K) (show i + 1 < L by omega) hL
  have r2 := fun (K : Int32 → Prop) => rIs (xs := xs) (K := K) (show i + 2 < L by omega) hL
  have r3 := fun (K : Int32 → Prop) => rIs (xs := xs) (K := K) (show i + 3 < L by omega) hL
  have r4 := fun (K : Int32 → Prop) => rIs (xs := xs) (K := K) (show i + 4 < L by omega) hL
  have r5 := fun (K : Int32 → Prop) => rIs (xs := xs) (K := K) (show i + 5 < L by omega) hL
  rw [qL_law_823]
  simp only [w0, w1, w2i, w2r, w3, w4, w5_0, w5_1, w5_2, w5_3, w5_4, w5_5, w5_6, w5_7, w5_8, w6_0, w6_1, w7_0, w7_1, w7_2, w7_3, w7_4, w7_5, w8_0, w8_1, w9_0, w9_1, w9_2, w10_0, w10_1, w10_2, w10_3, w10_4, w10_5, w11, w12_0, w12_1, w12_2, w12_3, w12_4, w12_5, w13_0, w13_1, w13_2, w13_3, w13_4, w13_5, w14, w15i, w15r, w16, w17, w18, w19i, w19z, w19l, w20, w21, w22, w23, w24, w25, w26, w27, w28_1, w28_2, w28_3, w28_4, w28_5, w28_6, w29, w30i, w30z, w31, w32, w33, w34, w35, w36, w37_1, w37_2, w37_3, w37_4, w37_5, w37_6, isO_O, set1_0, set1_1i, set1_1r, set1_1n, set1_1l, set1_s, set2_0, set2_1i, set2_1r, set2_1n, set2_1l, set2_s, ldv_i, ldv_l, ldv_r, ldv_s, ldi_i, ldi_s, fK_0, fK_s, gfc_O, fS_0, fS_s, uH_s, uH_n, uH_u, tl_s, tl_n, b1_0, b1_1, ite_true, ite_false, if_true, if_false, List.length_nil, List.length_cons, Nat.zero_le, Nat.zero_add, Nat.reduceAdd, Nat.reduceLeDiff, Nat.reduceLT, Nat.reduceEqDiff, Nat.reduceMul, Nat.add_left_cancel_iff, not_false_eq_true, k61, k0, e1, e2, e3, e4, e5, r1, r2, r3, r4, r5]
  refine pairI (P_bought (xs (i + 1)) (xs (i + 2)) (xs (i + 3))) hR hK (fun x h1 hK1 hin => ?_)
  obtain ⟨m61, ⟨g0, m0⟩, g39, m39⟩ := id hK1
  simp only [w0, w1, w2i, w2r, w3, w4, w5_0, w5_1, w5_2, w5_3, w5_4, w5_5, w5_6, w5_7, w5_8, w6_0, w6_1, w7_0, w7_1, w7_2, w7_3, w7_4, w7_5, w8_0, w8_1, w9_0, w9_1, w9_2, w10_0, w10_1, w10_2, w10_3, w10_4, w10_5, w11, w12_0, w12_1, w12_2, w12_3, w12_4, w12_5, w13_0, w13_1, w13_2, w13_3, w13_4, w13_5, w14, w15i, w15r, w16, w17, w18, w19i, w19z, w19l, w20, w21, w22, w23, w24, w25, w26, w27, w28_1, w28_2, w28_3, w28_4, w28_5, w28_6, w29, w30i, w30z, w31, w32, w33, w34, w35, w36, w37_1, w37_2, w37_3, w37_4, w37_5, w37_6, isO_O, set1_0, set1_1i, set1_1r, set1_1n, set1_1l, set1_s, set2_0, set2_1i, set2_1r, set2_1n, set2_1l, set2_s, ldv_i, ldv_l, ldv_r, ldv_s, ldi_i, ldi_s, fK_0, fK_s, gfc_O, fS_0, fS_s, uH_s, uH_n, uH_u, tl_s, tl_n, b1_0, b1_1, ite_true, ite_false, if_true, if_false, List.length_nil, List.length_cons, Nat.zero_le, Nat.zero_add, Nat.reduceAdd, Nat.reduceLeDiff, Nat.reduceLT, Nat.reduceEqDiff, Nat.reduceMul, Nat.add_left_cancel_iff, not_false_eq_true, m61, m39, e1, e2, e3, e4, e5, r1, r2, r3, r4, r5]
  refine WpM_SP hin (fun w h2 _ z => ?_)
  obtain ⟨rfl, hR2, hK2⟩ := z
  simp only [jL_law_1190, w0, w1, w2i, w2r, w3, w4, w5_0, w5_1, w5_2, w5_3, w5_4, w5_5, w5_6, w5_7, w5_8, w6_0, w6_1, w7_0, w7_1, w7_2, w7_3, w7_4, w7_5, w8_0, w8_1, w9_0, w9_1, w9_2, w10_0, w10_1, w10_2, w10_3, w10_4, w10_5, w11, w12_0, w12_1, w12_2, w12_3, w12_4, w12_5, w13_0, w13_1, w13_2, w13_3, w13_4, w13_5, w14, w15i, w15r, w16, w17, w18, w19i, w19z, w19l, w20, w21, w22, w23, w24, w25, w26, w27, w28_1, w28_2, w28_3, w28_4, w28_5, w28_6, w29, w30i, w30z, w31, w32, w33, w34, w35, w36, w37_1, w37_2, w37_3, w37_4, w37_5, w37_6, isO_O, set1_0, set1_1i, set1_1r, set1_1n, set1_1l, set1_s, set2_0, set2_1i, set2_1r, set2_1n, set2_1l, set2_s, ldv_i, ldv_l, ldv_r, ldv_s, ldi_i, ldi_s, fK_0, fK_s, gfc_O, fS_0, fS_s, uH_s, uH_n, uH_u, tl_s, tl_n, b1_0, b1_1, ite_true, ite_false, if_true, if_false, List.length_nil, List.length_cons, Nat.zero_le, Nat.zero_add, Nat.reduceAdd, Nat.reduceLeDiff, Nat.reduceLT, Nat.reduceEqDiff, Nat.reduceMul, Nat.add_left_cancel_iff, not_false_eq_true, if_true]
  exact K h2 hR2 hK2
theorem lpz_image {h : AH} {Q : Option Value → AH → Prop} {L i : Nat} {xs : Nat → Int32} (hL : L ≤ 3072) (hi : i + 6 ≤ L) (hR : RR h) (hK : LK h) (K : ∀ h2, RR h2 → LK h2 → Wp (some (L, xs)) 144 qL_law_1190 [some (.ref 61), some (.ref 0), some (.ref 39), some (.int (nI i))] [] h2 Q) : Wp (some (L, xs)) 144 qL_law_866 [some (.ref 61), some (.ref 0), some (.ref 39), some (.int (nI i))] [] h Q := by
  obtain ⟨k61, ⟨f0, k0⟩, f39, k39⟩ := id hK
  have e1 : nI i + 1 = nI (i + 1) := nI_add i 1
  have e2 : nI i + 2 = nI (i + 2) := nI_add i 2
  have e3 : nI i + 3 = nI (i + 3) := nI_add i 3
  have e4 : nI i + 4 = nI (i + 4) := nI_add i 4
  have e5 : nI i + 5 = nI (i + 5) := nI_add i 5
  have r1 := fun (K : Int32 → Prop) => rIs (xs := xs) (K := K) (show i + 1 < L by omega) hL
  have r2 := fun (K : Int32 → Prop) => rIs (xs := xs) (K := K) (show i + 2 < L by omega) hL
  have r3 := fun (K : Int32 → Prop) => rIs (xs := xs) (K := K) (show i + 3 < L by omega) hL
  have r4 := fun (K : Int32 → Prop) => rIs (xs := xs) (K := K) (show i + 4 < L by omega) hL
  have r5 := fun (K : Int32 → Prop) => rIs (xs := xs) (K := K) (show i + 5 < L by omega) hL
  rw [qL_law_866]
  simp only [w0, w1, w2i, w2r, w3, w4, w5_0, w5_1, w5_2, w5_3, w5_4, w5_5, w5_6, w5_7, w5_8, w6_0, w6_1, w7_0, w7_1, w7_2, w7_3, w7_4, w7_5, w8_0, w8_1, w9_0, w9_1, w9_2, w10_0, w10_1, w10_2, w10_3, w10_4, w10_5, w11, w12_0, w12_1, w12_2, w12_3, w12_4, w12_5, w13_0, w13_1, w13_2, w13_3, w13_4, w13_5, w14, w15i, w15r, w16, w17, w18, w19i, w19z, w19l, w20, w21, w22, w23, w24, w25, w26, w27, w28_1, w28_2, w28_3, w28_4, w28_5, w28_6, w29, w30i, w30z, w31, w32, w33, w34, w35, w36, w37_1, w37_2, w37_3, w37_4, w37_5, w37_6, isO_O, set1_0, set1_1i, set1_1r, set1_1n, set1_1l, set1_s, set2_0, set2_1i, set2_1r, set2_1n, set2_1l, set2_s, ldv_i, ldv_l, ldv_r, ldv_s, ldi_i, ldi_s, fK_0, fK_s, gfc_O, fS_0, fS_s, uH_s, uH_n, uH_u, tl_s, tl_n, b1_0, b1_1, ite_true, ite_false, if_true, if_false, List.length_nil, List.length_cons, Nat.zero_le, Nat.zero_add, Nat.reduceAdd, Nat.reduceLeDiff, Nat.reduceLT, Nat.reduceEqDiff, Nat.reduceMul, Nat.add_left_cancel_iff, not_false_eq_true, k61, k0, e1, e2, e3, e4, e5, r1, r2, r3, r4, r5]
  refine pairI (P_image) hR hK (fun x h1 hK1 hin => ?_)
  obtain ⟨m61, ⟨g0, m0⟩, g39, m39⟩ := id hK1
  simp only [w0, w1, w2i, w2r, w3, w4, w5_0, w5_1, w5_2, w5_3, w5_4, w5_5, w5_6, w5_7, w5_8, w6_0, w6_1, w7_0, w7_1, w7_2, w7_3, w7_4, w7_5, w8_0, w8_1, w9_0, w9_1, w9_2, w10_0, w10_1, w10_2, w10_3, w10_4, w10_5, w11, w12_0, w12_1, w12_2, w12_3, w12_4, w12_5, w13_0, w13_1, w13_2, w13_3, w13_4, w13_5, w14, w15i, w15r, w16, w17, w18, w19i, w19z, w19l, w20, w21, w22, w23, w24, w25, w26, w27, w28_1, w28_2, w28_3, w28_4, w28_5, w28_6, w29, w30i, w30z, w31, w32, w33, w34, w35, w36, w37_1, w37_2, w37_3, w37_4, w37_5, w37_6, isO_O, set1_0, set1_1i, set1_1r, set1_1n, set1_1l, set1_s, set2_0, set2_1i, set2_1r, set2_1n, set2_1l, set2_s, ldv_i, ldv_l, ldv_r, ldv_s, ldi_i, ldi_s, fK_0, fK_s, gfc_O, fS_0, fS_s, uH_s, uH_n, uH_u, tl_s, tl_n, b1_0, b1_1, ite_true, ite_false, if_true, if_false, List.length_nil, List.length_cons, Nat.zero_le, Nat.zero_add, Nat.reduceAdd, Nat.reduceLeDiff, Nat.reduceLT, Nat.reduceEqDiff, Nat.reduceMul, Nat.add_left_cancel_iff, not_false_eq_true, m61, m39, e1, e2, e3, e4, e5, r1, r2, r3, r4, r5]
  refine WpM_SP hin (fun w h2 _ z => ?_)
  obtain ⟨rfl, hR2, hK2⟩ := z
  simp only [jL_law_1190, w0, w1, w2i, w2r, w3, w4, w5_0, w5_1, w5_2, w5_3, w5_4, w5_5, w5_6, w5_7, w5_8, w6_0, w6_1, w7_0, w7_1, w7_2, w7_3, w7_4, w7_5, w8_0, w8_1, w9_0, w9_1, w9_2, w10_0, w10_1, w10_2, w10_3, w10_4, w10_5, w11, w12_0, w12_1, w12_2, w12_3, w12_4, w12_5, w13_0, w13_1, w13_2, w13_3, w13_4, w13_5, w14, w15i, w15r, w16, w17, w18, w19i, w19z, w19l, w20, w21, w22, w23, w24, w25, w26, w27, w28_1, w28_2, w28_3, w28_4, w28_5, w28_6, w29, w30i, w30z, w31, w32, w33, w34, w35, w36, w37_1, w37_2, w37_3, w37_4, w37_5, w37_6, isO_O, set1_0, set1_1i, set1_1r, set1_1n, set1_1l, set1_s, set2_0, set2_1i, set2_1r, set2_1n, set2_1l, set2_s, ldv_i, ldv_l, ldv_r, ldv_s, ldi_i, ldi_s, fK_0, fK_s, gfc_O, fS_0, fS_s, uH_s, uH_n, uH_u, tl_s, tl_n, b1_0, b1_1, ite_true, ite_false, if_true, if_false, List.length_nil, List.length_cons, Nat.zero_le, Nat.zero_add, Nat.reduceAdd, Nat.reduceLeDiff, Nat.reduceLT, Nat.reduceEqDiff, Nat.reduceMul, Nat.add_left_cancel_iff, not_false_eq_true, if_true]
  exact K h2 hR2 hK2
theorem lpz_restore {h : AH} {Q : Option Value → AH → Prop} {L i : Nat} {xs : Nat → Int32} (hL : L ≤ 3072) (hi : i + 6 ≤ L) (hR : RR h) (hK : LK h) (K : ∀ h2, RR h2 → LK h2 → Wp (some (L, xs)) 144 qL_law_1190 [some (.ref 61), some (.ref 0), some (.ref 39), some (.int (nI i))] [] h2 Q) : Wp (some (L, xs)) 144 qL_law_879 [some (.ref 61), some (.ref 0), some (.ref 39), some (.int (nI i))] [] h Q := by
  obtain ⟨k61, ⟨f0, k0⟩, f39, k39⟩ := id hK
  have e1 : nI i + 1 = nI (i + 1) := nI_add i 1
  have e2 : nI i + 2 = nI (i + 2) := nI_add i 2
  have e3 : nI i + 3 = nI (i + 3) := nI_add i 3
  have e4 : nI i + 4 = nI (i + 4) := nI_add i 4
  have e5 : nI i + 5 = nI (i + 5) := nI_add i 5
  have r1 := fun (K : Int32 → Prop) => rIs (xs := xs) (K := K) (show i + 1 < L by omega) hL
  have r2 := fun (K : Int32 → Prop) => rIs (xs := xs) (K := K) (show i + 2 < L by omega) hL
  have r3 := fun (K : Int32 → Prop) => rIs (xs := xs) (K := K) (show i + 3 < L by omega) hL
  have r4 := fun (K : Int32 → Prop) => rIs (xs := xs) (K := K) (show i + 4 < L by omega) hL
  have r5 := fun (K : Int32 → Prop) => rIs (xs := xs) (K := K) (show i + 5 < L by omega) hL
  rw [qL_law_879]
  simp only [w0, w1, w2i, w2r, w3, w4, w5_0, w5_1, w5_2, w5_3, w5_4, w5_5, w5_6, w5_7, w5_8, w6_0, w6_1, w7_0, w7_1, w7_2, w7_3, w7_4, w7_5, w8_0, w8_1, w9_0, w9_1, w9_2, w10_0, w10_1, w10_2, w10_3, w10_4, w10_5, w11, w12_0, w12_1, w12_2, w12_3, w12_4, w12_5, w13_0, w13_1, w13_2, w13_3, w13_4, w13_5, w14, w15i, w15r, w16, w17, w18, w19i, w19z, w19l, w20, w21, w22, w23, w24, w25, w26, w27, w28_1, w28_2, w28_3, w28_4, w28_5, w28_6, w29, w30i, w30z, w31, w32, w33, w34, w35, w36, w37_1, w37_2, w37_3, w37_4, w37_5, w37_6, isO_O, set1_0, set1_1i, set1_1r, set1_1n, set1_1l, set1_s, set2_0, set2_1i, set2_1r, set2_1n, set2_1l, set2_s, ldv_i, ldv_l, ldv_r, ldv_s, ldi_i, ldi_s, fK_0, fK_s, gfc_O, fS_0, fS_s, uH_s, uH_n, uH_u, tl_s, tl_n, b1_0, b1_1, ite_true, ite_false, if_true, if_false, List.length_nil, List.length_cons, Nat.zero_le, Nat.zero_add, Nat.reduceAdd, Nat.reduceLeDiff, Nat.reduceLT, Nat.reduceEqDiff, Nat.reduceMul, Nat.add_left_cancel_iff, not_false_eq_true, k61, k0, e1, e2, e3, e4, e5, r1, r2, r3, r4, r5]
  refine pairI (P_restore) hR hK (fun x h1 hK1 hin => ?_)
  obtain ⟨m61, ⟨g0, m0⟩, g39, m39⟩ := id hK1
  simp only [w0, w1, w2i, w2r, w3, w4, w5_0, w5_1, w5_2, w5_3, w5_4, w5_5, w5_6, w5_7, w5_8, w6_0, w6_1, w7_0, w7_1, w7_2, w7_3, w7_4, w7_5, w8_0, w8_1, w9_0, w9_1, w9_2, w10_0, w10_1, w10_2, w10_3, w10_4, w10_5, w11, w12_0, w12_1, w12_2, w12_3, w12_4, w12_5, w13_0, w13_1, w13_2, w13_3, w13_4, w13_5, w14, w15i, w15r, w16, w17, w18, w19i, w19z, w19l, w20, w21, w22, w23, w24, w25, w26, w27, w28_1, w28_2, w28_3, w28_4, w28_5, w28_6, w29, w30i, w30z, w31, w32, w33, w34, w35, w36, w37_1, w37_2, w37_3, w37_4, w37_5, w37_6, isO_O, set1_0, set1_1i, set1_1r, set1_1n, set1_1l, set1_s, set2_0, set2_1i, set2_1r, set2_1n, set2_1l, set2_s, ldv_i, ldv_l, ldv_r, ldv_s, ldi_i, ldi_s, fK_0, fK_s, gfc_O, fS_0, fS_s, uH_s, uH_n, uH_u, tl_s, tl_n, b1_0, b1_1, ite_true, ite_false, if_true, if_false, List.length_nil, List.length_cons, Nat.zero_le, Nat.zero_add, Nat.reduceAdd, Nat.reduceLeDiff, Nat.reduceLT, Nat.reduceEqDiff, Nat.reduceMul, Nat.add_left_cancel_iff, not_false_eq_true, m61, m39, e1, e2, e3, e4, e5, r1, r2, r3, r4, r5]
  refine WpM_SP hin (fun w h2 _ z => ?_)
  obtain ⟨rfl, hR2, hK2⟩ := z
  simp only [jL_law_1190, w0, w1, w2i, w2r, w3, w4, w5_0, w5_1, w5_2, w5_3, w5_4, w5_5, w5_6, w5_7, w5_8, w6_0, w6_1, w7_0, w7_1, w7_2, w7_3, w7_4, w7_5, w8_0, w8_1, w9_0, w9_1, w9_2, w10_0, w10_1, w10_2, w10_3, w10_4, w10_5, w11, w12_0, w12_1, w12_2, w12_3, w12_4, w12_5, w13_0, w13_1, w13_2, w13_3, w13_4, w13_5, w14, w15i, w15r, w16, w17, w18, w19i, w19z, w19l, w20, w21, w22, w23, w24, w25, w26, w27, w28_1, w28_2, w28_3, w28_4, w28_5, w28_6, w29, w30i, w30z, w31, w32, w33, w34, w35, w36, w37_1, w37_2, w37_3, w37_4, w37_5, w37_6, isO_O, set1_0, set1_1i, set1_1r, set1_1n, set1_1l, set1_s, set2_0, set2_1i, set2_1r, set2_1n, set2_1l, set2_s, ldv_i, ldv_l, ldv_r, ldv_s, ldi_i, ldi_s, fK_0, fK_s, gfc_O, fS_0, fS_s, uH_s, uH_n, uH_u, tl_s, tl_n, b1_0, b1_1, ite_true, ite_false, if_true, if_false, List.length_nil, List.length_cons, Nat.zero_le, Nat.zero_add, Nat.reduceAdd, Nat.reduceLeDiff, Nat.reduceLT, Nat.reduceEqDiff, Nat.reduceMul, Nat.add_left_cancel_iff, not_false_eq_true, if_true]
  exact K h2 hR2 hK2
theorem lpz_book {h : AH} {Q : Option Value → AH → Prop} {L i : Nat} {xs : Nat → Int32} (hL : L ≤ 3072) (hi : i + 6 ≤ L) (hR : RR h) (hK : LK h) (K : ∀ h2, RR h2 → LK h2 → Wp (some (L, xs)) 144 qL_law_1190 [some (.ref 61), some (.ref 0), some (.ref 39), some (.int (nI i))] [] h2 Q) : Wp (some (L, xs)) 144 qL_law_892 [some (.ref 61), some (.ref 0), some (.ref 39), some (.int (nI i))] [] h Q := by
  obtain ⟨k61, ⟨f0, k0⟩, f39, k39⟩ := id hK
  have e1 : nI i + 1 = nI (i + 1) := nI_add i 1
  have e2 : nI i + 2 = nI (i + 2) := nI_add i 2
  have e3 : nI i + 3 = nI (i + 3) := nI_add i 3
  have e4 : nI i + 4 = nI (i + 4) := nI_add i 4
  have e5 : nI i + 5 = nI (i + 5) := nI_add i 5
  have r1 := fun (K : Int32 → Prop) => rIs (xs := xs) (K := K) (show i + 1 < L by omega) hL
  have r2 := fun (K : Int32 → Prop) => rIs (xs := xs) (K := K) (show i + 2 < L by omega) hL
  have r3 := fun (K : Int32 → Prop) => rIs (xs := xs) (K := K) (show i + 3 < L by omega) hL
  have r4 := fun (K : Int32 → Prop) => rIs (xs := xs) (K := K) (show i + 4 < L by omega) hL
  have r5 := fun (K : Int32 → Prop) => rIs (xs := xs) (K := K) (show i + 5 < L by omega) hL
  rw [qL_law_892]
  simp only [w0, w1, w2i, w2r, w3, w4, w5_0, w5_1, w5_2, w5_3, w5_4, w5_5, w5_6, w5_7, w5_8, w6_0, w6_1, w7_0, w7_1, w7_2, w7_3, w7_4, w7_5, w8_0, w8_1, w9_0, w9_1, w9_2, w10_0, w10_1, w10_2, w10_3, w10_4, w10_5, w11, w12_0, w12_1, w12_2, w12_3, w12_4, w12_5, w13_0, w13_1, w13_2, w13_3, w13_4, w13_5, w14, w15i, w15r, w16, w17, w18, w19i, w19z, w19l, w20, w21, w22, w23, w24, w25, w26, w27, w28_1, w28_2, w28_3, w28_4, w28_5, w28_6, w29, w30i, w30z, w31, w32, w33, w34, w35, w36, w37_1, w37_2, w37_3, w37_4, w37_5, w37_6, isO_O, set1_0, set1_1i, set1_1r, set1_1n, set1_1l, set1_s, set2_0, set2_1i, set2_1r, set2_1n, set2_1l, set2_s, ldv_i, ldv_l, ldv_r, ldv_s, ldi_i, ldi_s, fK_0, fK_s, gfc_O, fS_0, fS_s, uH_s, uH_n, uH_u, tl_s, tl_n, b1_0, b1_1, ite_true, ite_false, if_true, if_false, List.length_nil, List.length_cons, Nat.zero_le, Nat.zero_add, Nat.reduceAdd, Nat.reduceLeDiff, Nat.reduceLT, Nat.reduceEqDiff, Nat.reduceMul, Nat.add_left_cancel_iff, not_false_eq_true, k61, k0, e1, e2, e3, e4, e5, r1, r2, r3, r4, r5]
  refine pairI (P_book (xs (i + 1)) (xs (i + 2)) (xs (i + 3))) hR hK (fun x h1 hK1 hin => ?_)
  obtain ⟨m61, ⟨g0, m0⟩, g39, m39⟩ := id hK1
  simp only [w0, w1, w2i, w2r, w3, w4, w5_0, w5_1, w5_2, w5_3, w5_4, w5_5, w5_6, w5_7, w5_8, w6_0, w6_1, w7_0, w7_1, w7_2, w7_3, w7_4, w7_5, w8_0, w8_1, w9_0, w9_1, w9_2, w10_0, w10_1, w10_2, w10_3, w10_4, w10_5, w11, w12_0, w12_1, w12_2, w12_3, w12_4, w12_5, w13_0, w13_1, w13_2, w13_3, w13_4, w13_5, w14, w15i, w15r, w16, w17, w18, w19i, w19z, w19l, w20, w21, w22, w23, w24, w25, w26, w27, w28_1, w28_2, w28_3, w28_4, w28_5, w28_6, w29, w30i, w30z, w31, w32, w33, w34, w35, w36, w37_1, w37_2, w37_3, w37_4, w37_5, w37_6, isO_O, set1_0, set1_1i, set1_1r, set1_1n, set1_1l, set1_s, set2_0, set2_1i, set2_1r, set2_1n, set2_1l, set2_s, ldv_i, ldv_l, ldv_r, ldv_s, ldi_i, ldi_s, fK_0, fK_s, gfc_O, fS_0, fS_s, uH_s, uH_n, uH_u, tl_s, tl_n, b1_0, b1_1, ite_true, ite_false, if_true, if_false, List.length_nil, List.length_cons, Nat.zero_le, Nat.zero_add, Nat.reduceAdd, Nat.reduceLeDiff, Nat.reduceLT, Nat.reduceEqDiff, Nat.reduceMul, Nat.add_left_cancel_iff, not_false_eq_true, m61, m39, e1, e2, e3, e4, e5, r1, r2, r3, r4, r5]
  refine WpM_SP hin (fun w h2 _ z => ?_)
  obtain ⟨rfl, hR2, hK2⟩ := z
  simp only [jL_law_1190, w0, w1, w2i, w2r, w3, w4, w5_0, w5_1, w5_2, w5_3, w5_4, w5_5, w5_6, w5_7, w5_8, w6_0, w6_1, w7_0, w7_1, w7_2, w7_3, w7_4, w7_5, w8_0, w8_1, w9_0, w9_1, w9_2, w10_0, w10_1, w10_2, w10_3, w10_4, w10_5, w11, w12_0, w12_1, w12_2, w12_3, w12_4, w12_5, w13_0, w13_1, w13_2, w13_3, w13_4, w13_5, w14, w15i, w15r, w16, w17, w18, w19i, w19z, w19l, w20, w21, w22, w23, w24, w25, w26, w27, w28_1, w28_2, w28_3, w28_4, w28_5, w28_6, w29, w30i, w30z, w31, w32, w33, w34, w35, w36, w37_1, w37_2, w37_3, w37_4, w37_5, w37_6, isO_O, set1_0, set1_1i, set1_1r, set1_1n, set1_1l, set1_s, set2_0, set2_1i, set2_1r, set2_1n, set2_1l, set2_s, ldv_i, ldv_l, ldv_r, ldv_s, ldi_i, ldi_s, fK_0, fK_s, gfc_O, fS_0, fS_s, uH_s, uH_n, uH_u, tl_s, tl_n, b1_0, b1_1, ite_true, ite_false, if_true, if_false, List.length_nil, List.length_cons, Nat.zero_le, Nat.zero_add, Nat.reduceAdd, Nat.reduceLeDiff, Nat.reduceLT, Nat.reduceEqDiff, Nat.reduceMul, Nat.add_left_cancel_iff, not_false_eq_true, if_true]
  exact K h2 hR2 hK2
theorem lpz_film {h : AH} {Q : Option Value → AH → Prop} {L i : Nat} {xs : Nat → Int32} (hL : L ≤ 3072) (hi : i + 6 ≤ L) (hR : RR h) (hK : LK h) (K : ∀ h2, RR h2 → LK h2 → Wp (some (L, xs)) 144 qL_law_1190 [some (.ref 61), some (.ref 0), some (.ref 39), some (.int (nI i))] [] h2 Q) : Wp (some (L, xs)) 144 qL_law_935 [some (.ref 61), some (.ref 0), some (.ref 39), some (.int (nI i))] [] h Q := by
  obtain ⟨k61, ⟨f0, k0⟩, f39, k39⟩ := id hK
  have e1 : nI i + 1 = nI (i + 1) := nI_add i 1
  have e2 : nI i + 2 = nI (i + 2) := nI_add i 2
  have e3 : nI i + 3 = nI (i + 3) := nI_add i 3
  have e4 : nI i + 4 = nI (i + 4) := nI_add i 4
  have e5 : nI i + 5 = nI (i + 5) := nI_add i 5
  have r1 := fun (K : Int32 → Prop) => rIs (xs := xs) (K := K) (show i + 1 < L by omega) hL
  have r2 := fun (K : Int32 → Prop) => rIs (xs := xs) (K := K) (show i + 2 < L by omega) hL
  have r3 := fun (K : Int32 → Prop) => rIs (xs := xs) (K := K) (show i + 3 < L by omega) hL
  have r4 := fun (K : Int32 → Prop) => rIs (xs := xs) (K := K) (show i + 4 < L by omega) hL
  have r5 := fun (K : Int32 → Prop) => rIs (xs := xs) (K := K) (show i + 5 < L by omega) hL
  rw [qL_law_935]
  simp only [w0, w1, w2i, w2r, w3, w4, w5_0, w5_1, w5_2, w5_3, w5_4, w5_5, w5_6, w5_7, w5_8, w6_0, w6_1, w7_0, w7_1, w7_2, w7_3, w7_4, w7_5, w8_0, w8_1, w9_0, w9_1, w9_2, w10_0, w10_1, w10_2, w10_3, w10_4, w10_5, w11, w12_0, w12_1, w12_2, w12_3, w12_4, w12_5, w13_0, w13_1, w13_2, w13_3, w13_4, w13_5, w14, w15i, w15r, w16, w17, w18, w19i, w19z, w19l, w20, w21, w22, w23, w24, w25, w26, w27, w28_1, w28_2, w28_3, w28_4, w28_5, w28_6, w29, w30i, w30z, w31, w32, w33, w34, w35, w36, w37_1, w37_2, w37_3, w37_4, w37_5, w37_6, isO_O, set1_0, set1_1i, set1_1r, set1_1n, set1_1l, set1_s, set2_0, set2_1i, set2_1r, set2_1n, set2_1l, set2_s, ldv_i, ldv_l, ldv_r, ldv_s, ldi_i, ldi_s, fK_0, fK_s, gfc_O, fS_0, fS_s, uH_s, uH_n, uH_u, tl_s, tl_n, b1_0, b1_1, ite_true, ite_false, if_true, if_false, List.length_nil, List.length_cons, Nat.zero_le, Nat.zero_add, Nat.reduceAdd, Nat.reduceLeDiff, Nat.reduceLT, Nat.reduceEqDiff, Nat.reduceMul, Nat.add_left_cancel_iff, not_false_eq_true, k61, k0, e1, e2, e3, e4, e5, r1, r2, r3, r4, r5]
  refine pairI (P_film (xs (i + 1)) (xs (i + 2)) (xs (i + 3))) hR hK (fun x h1 hK1 hin => ?_)
  obtain ⟨m61, ⟨g0, m0⟩, g39, m39⟩ := id hK1
  simp only [w0, w1, w2i, w2r, w3, w4, w5_0, w5_1, w5_2, w5_3, w5_4, w5_5, w5_6, w5_7, w5_8, w6_0, w6_1, w7_0, w7_1, w7_2, w7_3, w7_4, w7_5, w8_0, w8_1, w9_0, w9_1, w9_2, w10_0, w10_1, w10_2, w10_3, w10_4, w10_5, w11, w12_0, w12_1, w12_2, w12_3, w12_4, w12_5, w13_0, w13_1, w13_2, w13_3, w13_4, w13_5, w14, w15i, w15r, w16, w17, w18, w19i, w19z, w19l, w20, w21, w22, w23, w24, w25, w26, w27, w28_1, w28_2, w28_3, w28_4, w28_5, w28_6, w29, w30i, w30z, w31, w32, w33, w34, w35, w36, w37_1, w37_2, w37_3, w37_4, w37_5, w37_6, isO_O, set1_0, set1_1i, set1_1r, set1_1n, set1_1l, set1_s, set2_0, set2_1i, set2_1r, set2_1n, set2_1l, set2_s, ldv_i, ldv_l, ldv_r, ldv_s, ldi_i, ldi_s, fK_0, fK_s, gfc_O, fS_0, fS_s, uH_s, uH_n, uH_u, tl_s, tl_n, b1_0, b1_1, ite_true, ite_false, if_true, if_false, List.length_nil, List.length_cons, Nat.zero_le, Nat.zero_add, Nat.reduceAdd, Nat.reduceLeDiff, Nat.reduceLT, Nat.reduceEqDiff, Nat.reduceMul, Nat.add_left_cancel_iff, not_false_eq_true, m61, m39, e1, e2, e3, e4, e5, r1, r2, r3, r4, r5]
  refine WpM_SP hin (fun w h2 _ z => ?_)
  obtain ⟨rfl, hR2, hK2⟩ := z
  simp only [jL_law_1190, w0, w1, w2i, w2r, w3, w4, w5_0, w5_1, w5_2, w5_3, w5_4, w5_5, w5_6, w5_7, w5_8, w6_0, w6_1, w7_0, w7_1, w7_2, w7_3, w7_4, w7_5, w8_0, w8_1, w9_0, w9_1, w9_2, w10_0, w10_1, w10_2, w10_3, w10_4, w10_5, w11, w12_0, w12_1, w12_2, w12_3, w12_4, w12_5, w13_0, w13_1, w13_2, w13_3, w13_4, w13_5, w14, w15i, w15r, w16, w17, w18, w19i, w19z, w19l, w20, w21, w22, w23, w24, w25, w26, w27, w28_1, w28_2, w28_3, w28_4, w28_5, w28_6, w29, w30i, w30z, w31, w32, w33, w34, w35, w36, w37_1, w37_2, w37_3, w37_4, w37_5, w37_6, isO_O, set1_0, set1_1i, set1_1r, set1_1n, set1_1l, set1_s, set2_0, set2_1i, set2_1r, set2_1n, set2_1l, set2_s, ldv_i, ldv_l, ldv_r, ldv_s, ldi_i, ldi_s, fK_0, fK_s, gfc_O, fS_0, fS_s, uH_s, uH_n, uH_u, tl_s, tl_n, b1_0, b1_1, ite_true, ite_false, if_true, if_false, List.length_nil, List.length_cons, Nat.zero_le, Nat.zero_add, Nat.reduceAdd, Nat.reduceLeDiff, Nat.reduceLT, Nat.reduceEqDiff, Nat.reduceMul, Nat.add_left_cancel_iff, not_false_eq_true, if_true]
  exact K h2 hR2 hK2
theorem lpz_sheet {h : AH} {Q : Option Value → AH → Prop} {L i : Nat} {xs : Nat → Int32} (hL : L ≤ 3072) (hi : i + 6 ≤ L) (hR : RR h) (hK : LK h) (K : ∀ h2, RR h2 → LK h2 → Wp (some (L, xs)) 144 qL_law_1190 [some (.ref 61), some (.ref 0), some (.ref 39), some (.int (nI i))] [] h2 Q) : Wp (some (L, xs)) 144 qL_law_978 [some (.ref 61), some (.ref 0), some (.ref 39), some (.int (nI i))] [] h Q := by
  obtain ⟨k61, ⟨f0, k0⟩, f39, k39⟩ := id hK
  have e1 : nI i + 1 = nI (i + 1) := nI_add i 1
  have e2 : nI i + 2 = nI (i + 2) := nI_add i 2
  have e3 : nI i + 3 = nI (i + 3) := nI_add i 3
  have e4 : nI i + 4 = nI (i + 4) := nI_add i 4
  have e5 : nI i + 5 = nI (i + 5) := nI_add i 5
  have r1 := fun (K : Int32 → Prop) => rIs (xs := xs) (K := K) (show i + 1 < L by omega) hL
  have r2 := fun (K : Int32 → Prop) => rIs (xs := xs) (K := K) (show i + 2 < L by omega) hL
  have r3 := fun (K : Int32 → Prop) => rIs (xs := xs) (K := K) (show i + 3 < L by omega) hL
  have r4 := fun (K : Int32 → Prop) => rIs (xs := xs) (K := K) (show i + 4 < L by omega) hL
  have r5 := fun (K : Int32 → Prop) => rIs (xs := xs) (K := K) (show i + 5 < L by omega) hL
  rw [qL_law_978]
  simp only [w0, w1, w2i, w2r, w3, w4, w5_0, w5_1, w5_2, w5_3, w5_4, w5_5, w5_6, w5_7, w5_8, w6_0, w6_1, w7_0, w7_1, w7_2, w7_3, w7_4, w7_5, w8_0, w8_1, w9_0, w9_1, w9_2, w10_0, w10_1, w10_2, w10_3, w10_4, w10_5, w11, w12_0, w12_1, w12_2, w12_3, w12_4, w12_5, w13_0, w13_1, w13_2, w13_3, w13_4, w13_5, w14, w15i, w15r, w16, w17, w18, w19i, w19z, w19l, w20, w21, w22, w23, w24, w25, w26, w27, w28_1, w28_2, w28_3, w28_4, w28_5, w28_6, w29, w30i, w30z, w31, w32, w33, w34, w35, w36, w37_1, w37_2, w37_3, w37_4, w37_5, w37_6, isO_O, set1_0, set1_1i, set1_1r, set1_1n, set1_1l, set1_s, set2_0, set2_1i, set2_1r, set2_1n, set2_1l, set2_s, ldv_i, ldv_l, ldv_r, ldv_s, ldi_i, ldi_s, fK_0, fK_s, gfc_O, fS_0, fS_s, uH_s, uH_n, uH_u, tl_s, tl_n, b1_0, b1_1, ite_true, ite_false, if_true, if_false, List.length_nil, List.length_cons, Nat.zero_le, Nat.zero_add, Nat.reduceAdd, Nat.reduceLeDiff, Nat.reduceLT, Nat.reduceEqDiff, Nat.reduceMul, Nat.add_left_cancel_iff, not_false_eq_true, k61, k0, e1, e2, e3, e4, e5, r1, r2, r3, r4, r5]
  refine pairI (P_sheet (xs (i + 1)) (xs (i + 2)) (xs (i + 3))) hR hK (fun x h1 hK1 hin => ?_)
  obtain ⟨m61, ⟨g0, m0⟩, g39, m39⟩ := id hK1
  simp only [w0, w1, w2i, w2r, w3, w4, w5_0, w5_1, w5_2, w5_3, w5_4, w5_5, w5_6, w5_7, w5_8, w6_0, w6_1, w7_0, w7_1, w7_2, w7_3, w7_4, w7_5, w8_0, w8_1, w9_0, w9_1, w9_2, w10_0, w10_1, w10_2, w10_3, w10_4, w10_5, w11, w12_0, w12_1, w12_2, w12_3, w12_4, w12_5, w13_0, w13_1, w13_2, w13_3, w13_4, w13_5, w14, w15i, w15r, w16, w17, w18, w19i, w19z, w19l, w20, w21, w22, w23, w24, w25, w26, w27, w28_1, w28_2, w28_3, w28_4, w28_5, w28_6, w29, w30i, w30z, w31, w32, w33, w34, w35, w36, w37_1, w37_2, w37_3, w37_4, w37_5, w37_6, isO_O, set1_0, set1_1i, set1_1r, set1_1n, set1_1l, set1_s, set2_0, set2_1i, set2_1r, set2_1n, set2_1l, set2_s, ldv_i, ldv_l, ldv_r, ldv_s, ldi_i, ldi_s, fK_0, fK_s, gfc_O, fS_0, fS_s, uH_s, uH_n, uH_u, tl_s, tl_n, b1_0, b1_1, ite_true, ite_false, if_true, if_false, List.length_nil, List.length_cons, Nat.zero_le, Nat.zero_add, Nat.reduceAdd, Nat.reduceLeDiff, Nat.reduceLT, Nat.reduceEqDiff, Nat.reduceMul, Nat.add_left_cancel_iff, not_false_eq_true, m61, m39, e1, e2, e3, e4, e5, r1, r2, r3, r4, r5]
  refine WpM_SP hin (fun w h2 _ z => ?_)
  obtain ⟨rfl, hR2, hK2⟩ := z
  simp only [jL_law_1190, w0, w1, w2i, w2r, w3, w4, w5_0, w5_1, w5_2, w5_3, w5_4, w5_5, w5_6, w5_7, w5_8, w6_0, w6_1, w7_0, w7_1, w7_2, w7_3, w7_4, w7_5, w8_0, w8_1, w9_0, w9_1, w9_2, w10_0, w10_1, w10_2, w10_3, w10_4, w10_5, w11, w12_0, w12_1, w12_2, w12_3, w12_4, w12_5, w13_0, w13_1, w13_2, w13_3, w13_4, w13_5, w14, w15i, w15r, w16, w17, w18, w19i, w19z, w19l, w20, w21, w22, w23, w24, w25, w26, w27, w28_1, w28_2, w28_3, w28_4, w28_5, w28_6, w29, w30i, w30z, w31, w32, w33, w34, w35, w36, w37_1, w37_2, w37_3, w37_4, w37_5, w37_6, isO_O, set1_0, set1_1i, set1_1r, set1_1n, set1_1l, set1_s, set2_0, set2_1i, set2_1r, set2_1n, set2_1l, set2_s, ldv_i, ldv_l, ldv_r, ldv_s, ldi_i, ldi_s, fK_0, fK_s, gfc_O, fS_0, fS_s, uH_s, uH_n, uH_u, tl_s, tl_n, b1_0, b1_1, ite_true, ite_false, if_true, if_false, List.length_nil, List.length_cons, Nat.zero_le, Nat.zero_add, Nat.reduceAdd, Nat.reduceLeDiff, Nat.reduceLT, Nat.reduceEqDiff, Nat.reduceMul, Nat.add_left_cancel_iff, not_false_eq_true, if_true]
  exact K h2 hR2 hK2
theorem lpz_drop {h : AH} {Q : Option Value → AH → Prop} {L i : Nat} {xs : Nat → Int32} (hL : L ≤ 3072) (hi : i + 6 ≤ L) (hR : RR h) (hK : LK h) (K : ∀ h2, RR h2 → LK h2 → Wp (some (L, xs)) 144 qL_law_1190 [some (.ref 61), some (.ref 0), some (.ref 39), some (.int (nI i))] [] h2 Q) : Wp (some (L, xs)) 144 qL_law_1021 [some (.ref 61), some (.ref 0), some (.ref 39), some (.int (nI i))] [] h Q := by
  obtain ⟨k61, ⟨f0, k0⟩, f39, k39⟩ := id hK
  have e1 : nI i + 1 = nI (i + 1) := nI_add i 1
  have e2 : nI i + 2 = nI (i + 2) := nI_add i 2
  have e3 : nI i + 3 = nI (i + 3) := nI_add i 3
  have e4 : nI i + 4 = nI (i + 4) := nI_add i 4
  have e5 : nI i + 5 = nI (i + 5) := nI_add i 5
  have r1 := fun (K : Int32 → Prop) => rIs (xs := xs) (K := K) (show i + 1 < L by omega) hL
  have r2 := fun (K : Int32 → Prop) => rIs (xs := xs) (K := K) (show i + 2 < L by omega) hL
  have r3 := fun (K : Int32 → Prop) => rIs (xs := xs) (K := K) (show i + 3 < L by omega) hL
  have r4 := fun (K : Int32 → Prop) => rIs (xs := xs) (K := K) (show i + 4 < L by omega) hL
  have r5 := fun (K : Int32 → Prop) => rIs (xs := xs) (K := K) (show i + 5 < L by omega) hL
  rw [qL_law_1021]
  simp only [w0, w1, w2i, w2r, w3, w4, w5_0, w5_1, w5_2, w5_3, w5_4, w5_5, w5_6, w5_7, w5_8, w6_0, w6_1, w7_0, w7_1, w7_2, w7_3, w7_4, w7_5, w8_0, w8_1, w9_0, w9_1, w9_2, w10_0, w10_1, w10_2, w10_3, w10_4, w10_5, w11, w12_0, w12_1, w12_2, w12_3, w12_4, w12_5, w13_0, w13_1, w13_2, w13_3, w13_4, w13_5, w14, w15i, w15r, w16, w17, w18, w19i, w19z, w19l, w20, w21, w22, w23, w24, w25, w26, w27, w28_1, w28_2, w28_3, w28_4, w28_5, w28_6, w29, w30i, w30z, w31, w32, w33, w34, w35, w36, w37_1, w37_2, w37_3, w37_4, w37_5, w37_6, isO_O, set1_0, set1_1i, set1_1r, set1_1n, set1_1l, set1_s, set2_0, set2_1i, set2_1r, set2_1n, set2_1l, set2_s, ldv_i, ldv_l, ldv_r, ldv_s, ldi_i, ldi_s, fK_0, fK_s, gfc_O, fS_0, fS_s, uH_s, uH_n, uH_u, tl_s, tl_n, b1_0, b1_1, ite_true, ite_false, if_true, if_false, List.length_nil, List.length_cons, Nat.zero_le, Nat.zero_add, Nat.reduceAdd, Nat.reduceLeDiff, Nat.reduceLT, Nat.reduceEqDiff, Nat.reduceMul, Nat.add_left_cancel_iff, not_false_eq_true, k61, k0, e1, e2, e3, e4, e5, r1, r2, r3, r4, r5]
  refine pairI (P_drop (xs (i + 1))) hR hK (fun x h1 hK1 hin => ?_)
  obtain ⟨m61, ⟨g0, m0⟩, g39, m39⟩ := id hK1
  simp only [w0, w1, w2i, w2r, w3, w4, w5_0, w5_1, w5_2, w5_3, w5_4, w5_5, w5_6, w5_7, w5_8, w6_0, w6_1, w7_0, w7_1, w7_2, w7_3, w7_4, w7_5, w8_0, w8_1, w9_0, w9_1, w9_2, w10_0, w10_1, w10_2, w10_3, w10_4, w10_5, w11, w12_0, w12_1, w12_2, w12_3, w12_4, w12_5, w13_0, w13_1, w13_2, w13_3, w13_4, w13_5, w14, w15i, w15r, w16, w17, w18, w19i, w19z, w19l, w20, w21, w22, w23, w24, w25, w26, w27, w28_1, w28_2, w28_3, w28_4, w28_5, w28_6, w29, w30i, w30z, w31, w32, w33, w34, w35, w36, w37_1, w37_2, w37_3, w37_4, w37_5, w37_6, isO_O, set1_0, set1_1i, set1_1r, set1_1n, set1_1l, set1_s, set2_0, set2_1i, set2_1r, set2_1n, set2_1l, set2_s, ldv_i, ldv_l, ldv_r, ldv_s, ldi_i, ldi_s, fK_0, fK_s, gfc_O, fS_0, fS_s, uH_s, uH_n, uH_u, tl_s, tl_n, b1_0, b1_1, ite_true, ite_false, if_true, if_false, List.length_nil, List.length_cons, Nat.zero_le, Nat.zero_add, Nat.reduceAdd, Nat.reduceLeDiff, Nat.reduceLT, Nat.reduceEqDiff, Nat.reduceMul, Nat.add_left_cancel_iff, not_false_eq_true, m61, m39, e1, e2, e3, e4, e5, r1, r2, r3, r4, r5]
  refine WpM_SP hin (fun w h2 _ z => ?_)
  obtain ⟨rfl, hR2, hK2⟩ := z
  simp only [jL_law_1190, w0, w1, w2i, w2r, w3, w4, w5_0, w5_1, w5_2, w5_3, w5_4, w5_5, w5_6, w5_7, w5_8, w6_0, w6_1, w7_0, w7_1, w7_2, w7_3, w7_4, w7_5, w8_0, w8_1, w9_0, w9_1, w9_2, w10_0, w10_1, w10_2, w10_3, w10_4, w10_5, w11, w12_0, w12_1, w12_2, w12_3, w12_4, w12_5, w13_0, w13_1, w13_2, w13_3, w13_4, w13_5, w14, w15i, w15r, w16, w17, w18, w19i, w19z, w19l, w20, w21, w22, w23, w24, w25, w26, w27, w28_1, w28_2, w28_3, w28_4, w28_5, w28_6, w29, w30i, w30z, w31, w32, w33, w34, w35, w36, w37_1, w37_2, w37_3, w37_4, w37_5, w37_6, isO_O, set1_0, set1_1i, set1_1r, set1_1n, set1_1l, set1_s, set2_0, set2_1i, set2_1r, set2_1n, set2_1l, set2_s, ldv_i, ldv_l, ldv_r, ldv_s, ldi_i, ldi_s, fK_0, fK_s, gfc_O, fS_0, fS_s, uH_s, uH_n, uH_u, tl_s, tl_n, b1_0, b1_1, ite_true, ite_false, if_true, if_false, List.length_nil, List.length_cons, Nat.zero_le, Nat.zero_add, Nat.reduceAdd, Nat.reduceLeDiff, Nat.reduceLT, Nat.reduceEqDiff, Nat.reduceMul, Nat.add_left_cancel_iff, not_false_eq_true, if_true]
  exact K h2 hR2 hK2
theorem lpz_item {h : AH} {Q : Option Value → AH → Prop} {L i : Nat} {xs : Nat → Int32} (hL : L ≤ 3072) (hi : i + 6 ≤ L) (hR : RR h) (hK : LK h) (K : ∀ h2, RR h2 → LK h2 → Wp (some (L, xs)) 144 qL_law_1190 [some (.ref 61), some (.ref 0), some (.ref 39), some (.int (nI i))] [] h2 Q) : Wp (some (L, xs)) 144 qL_law_1044 [some (.ref 61), some (.ref 0), some (.ref 39), some (.int (nI i))] [] h Q := by
  obtain ⟨k61, ⟨f0, k0⟩, f39, k39⟩ := id hK
  have e1 : nI i + 1 = nI (i + 1) := nI_add i 1
  have e2 : nI i + 2 = nI (i + 2) := nI_add i 2
  have e3 : nI i + 3 = nI (i + 3) := nI_add i 3
  have e4 : nI i + 4 = nI (i + 4) := nI_add i 4
  have e5 : nI i + 5 = nI (i + 5) := nI_add i 5
  have r1 := fun (K : Int32 → Prop) => rIs (xs := xs) (K := K) (show i + 1 < L by omega) hL
  have r2 := fun (K : Int32 → Prop) => rIs (xs := xs) (K := K) (show i + 2 < L by omega) hL
  have r3 := fun (K : Int32 → Prop) => rIs (xs := xs) (K := K) (show i + 3 < L by omega) hL
  have r4 := fun (K : Int32 → Prop) => rIs (xs := xs) (K := K) (show i + 4 < L by omega) hL
  have r5 := fun (K : Int32 → Prop) => rIs (xs := xs) (K := K) (show i + 5 < L by omega) hL
  rw [qL_law_1044]
  simp only [w0, w1, w2i, w2r, w3, w4, w5_0, w5_1, w5_2, w5_3, w5_4, w5_5, w5_6, w5_7, w5_8, w6_0, w6_1, w7_0, w7_1, w7_2, w7_3, w7_4, w7_5, w8_0, w8_1, w9_0, w9_1, w9_2, w10_0, w10_1, w10_2, w10_3, w10_4, w10_5, w11, w12_0, w12_1, w12_2, w12_3, w12_4, w12_5, w13_0, w13_1, w13_2, w13_3, w13_4, w13_5, w14, w15i, w15r, w16, w17, w18, w19i, w19z, w19l, w20, w21, w22, w23, w24, w25, w26, w27, w28_1, w28_2, w28_3, w28_4, w28_5, w28_6, w29, w30i, w30z, w31, w32, w33, w34, w35, w36, w37_1, w37_2, w37_3, w37_4, w37_5, w37_6, isO_O, set1_0, set1_1i, set1_1r, set1_1n, set1_1l, set1_s, set2_0, set2_1i, set2_1r, set2_1n, set2_1l, set2_s, ldv_i, ldv_l, ldv_r, ldv_s, ldi_i, ldi_s, fK_0, fK_s, gfc_O, fS_0, fS_s, uH_s, uH_n, uH_u, tl_s, tl_n, b1_0, b1_1, ite_true, ite_false, if_true, if_false, List.length_nil, List.length_cons, Nat.zero_le, Nat.zero_add, Nat.reduceAdd, Nat.reduceLeDiff, Nat.reduceLT, Nat.reduceEqDiff, Nat.reduceMul, Nat.add_left_cancel_iff, not_false_eq_true, k61, k0, e1, e2, e3, e4, e5, r1, r2, r3, r4, r5]
  refine pairI (P_item (xs (i + 1)) (xs (i + 2)) (xs (i + 3)) (((xs (i + 4)).toInt64 <<< ((32 : Int32).toInt64 &&& 63)) ||| ((xs (i + 5)).toInt64 &&& 4294967295))) hR hK (fun x h1 hK1 hin => ?_)
  obtain ⟨m61, ⟨g0, m0⟩, g39, m39⟩ := id hK1
  simp only [w0, w1, w2i, w2r, w3, w4, w5_0, w5_1, w5_2, w5_3, w5_4, w5_5, w5_6, w5_7, w5_8, w6_0, w6_1, w7_0, w7_1, w7_2, w7_3, w7_4, w7_5, w8_0, w8_1, w9_0, w9_1, w9_2, w10_0, w10_1, w10_2, w10_3, w10_4, w10_5, w11, w12_0, w12_1, w12_2, w12_3, w12_4, w12_5, w13_0, w13_1, w13_2, w13_3, w13_4, w13_5, w14, w15i, w15r, w16, w17, w18, w19i, w19z, w19l, w20, w21, w22, w23, w24, w25, w26, w27, w28_1, w28_2, w28_3, w28_4, w28_5, w28_6, w29, w30i, w30z, w31, w32, w33, w34, w35, w36, w37_1, w37_2, w37_3, w37_4, w37_5, w37_6, isO_O, set1_0, set1_1i, set1_1r, set1_1n, set1_1l, set1_s, set2_0, set2_1i, set2_1r, set2_1n, set2_1l, set2_s, ldv_i, ldv_l, ldv_r, ldv_s, ldi_i, ldi_s, fK_0, fK_s, gfc_O, fS_0, fS_s, uH_s, uH_n, uH_u, tl_s, tl_n, b1_0, b1_1, ite_true, ite_false, if_true, if_false, List.length_nil, List.length_cons, Nat.zero_le, Nat.zero_add, Nat.reduceAdd, Nat.reduceLeDiff, Nat.reduceLT, Nat.reduceEqDiff, Nat.reduceMul, Nat.add_left_cancel_iff, not_false_eq_true, m61, m39, e1, e2, e3, e4, e5, r1, r2, r3, r4, r5]
  refine WpM_SP hin (fun w h2 _ z => ?_)
  obtain ⟨rfl, hR2, hK2⟩ := z
  simp only [jL_law_1190, w0, w1, w2i, w2r, w3, w4, w5_0, w5_1, w5_2, w5_3, w5_4, w5_5, w5_6, w5_7, w5_8, w6_0, w6_1, w7_0, w7_1, w7_2, w7_3, w7_4, w7_5, w8_0, w8_1, w9_0, w9_1, w9_2, w10_0, w10_1, w10_2, w10_3, w10_4, w10_5, w11, w12_0, w12_1, w12_2, w12_3, w12_4, w12_5, w13_0, w13_1, w13_2, w13_3, w13_4, w13_5, w14, w15i, w15r, w16, w17, w18, w19i, w19z, w19l, w20, w21, w22, w23, w24, w25, w26, w27, w28_1, w28_2, w28_3, w28_4, w28_5, w28_6, w29, w30i, w30z, w31, w32, w33, w34, w35, w36, w37_1, w37_2, w37_3, w37_4, w37_5, w37_6, isO_O, set1_0, set1_1i, set1_1r, set1_1n, set1_1l, set1_s, set2_0, set2_1i, set2_1r, set2_1n, set2_1l, set2_s, ldv_i, ldv_l, ldv_r, ldv_s, ldi_i, ldi_s, fK_0, fK_s, gfc_O, fS_0, fS_s, uH_s, uH_n, uH_u, tl_s, tl_n, b1_0, b1_1, ite_true, ite_false, if_true, if_false, List.length_nil, List.length_cons, Nat.zero_le, Nat.zero_add, Nat.reduceAdd, Nat.reduceLeDiff, Nat.reduceLT, Nat.reduceEqDiff, Nat.reduceMul, Nat.add_left_cancel_iff, not_false_eq_true, if_true]
  exact K h2 hR2 hK2
theorem lpz_copy {h : AH} {Q : Option Value → AH → Prop} {L i : Nat} {xs : Nat → Int32} (hL : L ≤ 3072) (hi : i + 6 ≤ L) (hR : RR h) (hK : LK h) (K : ∀ h2, RR h2 → LK h2 → Wp (some (L, xs)) 144 qL_law_1190 [some (.ref 61), some (.ref 0), some (.ref 39), some (.int (nI i))] [] h2 Q) : Wp (some (L, xs)) 144 qL_law_1127 [some (.ref 61), some (.ref 0), some (.ref 39), some (.int (nI i))] [] h Q := by
  obtain ⟨k61, ⟨f0, k0⟩, f39, k39⟩ := id hK
  have e1 : nI i + 1 = nI (i + 1) := nI_add i 1
  have e2 : nI i + 2 = nI (i + 2) := nI_add i 2
  have e3 : nI i + 3 = nI (i + 3) := nI_add i 3
  have e4 : nI i + 4 = nI (i + 4) := nI_add i 4
  have e5 : nI i + 5 = nI (i + 5) := nI_add i 5
  have r1 := fun (K : Int32 → Prop) => rIs (xs := xs) (K := K) (show i + 1 < L by omega) hL
  have r2 := fun (K : Int32 → Prop) => rIs (xs := xs) (K := K) (show i + 2 < L by omega) hL
  have r3 := fun (K : Int32 → Prop) => rIs (xs := xs) (K := K) (show i + 3 < L by omega) hL
  have r4 := fun (K : Int32 → Prop) => rIs (xs := xs) (K := K) (show i + 4 < L by omega) hL
  have r5 := fun (K : Int32 → Prop) => rIs (xs := xs) (K := K) (show i + 5 < L by omega) hL
  rw [qL_law_1127]
  simp only [w0, w1, w2i, w2r, w3, w4, w5_0, w5_1, w5_2, w5_3, w5_4, w5_5, w5_6, w5_7, w5_8, w6_0, w6_1, w7_0, w7_1, w7_2, w7_3, w7_4, w7_5, w8_0, w8_1, w9_0, w9_1, w9_2, w10_0, w10_1, w10_2, w10_3, w10_4, w10_5, w11, w12_0, w12_1, w12_2, w12_3, w12_4, w12_5, w13_0, w13_1, w13_2, w13_3, w13_4, w13_5, w14, w15i, w15r, w16, w17, w18, w19i, w19z, w19l, w20, w21, w22, w23, w24, w25, w26, w27, w28_1, w28_2, w28_3, w28_4, w28_5, w28_6, w29, w30i, w30z, w31, w32, w33, w34, w35, w36, w37_1, w37_2, w37_3, w37_4, w37_5, w37_6, isO_O, set1_0, set1_1i, set1_1r, set1_1n, set1_1l, set1_s, set2_0, set2_1i, set2_1r, set2_1n, set2_1l, set2_s, ldv_i, ldv_l, ldv_r, ldv_s, ldi_i, ldi_s, fK_0, fK_s, gfc_O, fS_0, fS_s, uH_s, uH_n, uH_u, tl_s, tl_n, b1_0, b1_1, ite_true, ite_false, if_true, if_false, List.length_nil, List.length_cons, Nat.zero_le, Nat.zero_add, Nat.reduceAdd, Nat.reduceLeDiff, Nat.reduceLT, Nat.reduceEqDiff, Nat.reduceMul, Nat.add_left_cancel_iff, not_false_eq_true, k61, k0, e1, e2, e3, e4, e5, r1, r2, r3, r4, r5]
  refine pairI (P_copy (xs (i + 1)) (xs (i + 2)) (xs (i + 3)) (xs (i + 4)) (xs (i + 5))) hR hK (fun x h1 hK1 hin => ?_)
  obtain ⟨m61, ⟨g0, m0⟩, g39, m39⟩ := id hK1
  simp only [w0, w1, w2i, w2r, w3, w4, w5_0, w5_1, w5_2, w5_3, w5_4, w5_5, w5_6, w5_7, w5_8, w6_0, w6_1, w7_0, w7_1, w7_2, w7_3, w7_4, w7_5, w8_0, w8_1, w9_0, w9_1, w9_2, w10_0, w10_1, w10_2, w10_3, w10_4, w10_5, w11, w12_0, w12_1, w12_2, w12_3, w12_4, w12_5, w13_0, w13_1, w13_2, w13_3, w13_4, w13_5, w14, w15i, w15r, w16, w17, w18, w19i, w19z, w19l, w20, w21, w22, w23, w24, w25, w26, w27, w28_1, w28_2, w28_3, w28_4, w28_5, w28_6, w29, w30i, w30z, w31, w32, w33, w34, w35, w36, w37_1, w37_2, w37_3, w37_4, w37_5, w37_6, isO_O, set1_0, set1_1i, set1_1r, set1_1n, set1_1l, set1_s, set2_0, set2_1i, set2_1r, set2_1n, set2_1l, set2_s, ldv_i, ldv_l, ldv_r, ldv_s, ldi_i, ldi_s, fK_0, fK_s, gfc_O, fS_0, fS_s, uH_s, uH_n, uH_u, tl_s, tl_n, b1_0, b1_1, ite_true, ite_false, if_true, if_false, List.length_nil, List.length_cons, Nat.zero_le, Nat.zero_add, Nat.reduceAdd, Nat.reduceLeDiff, Nat.reduceLT, Nat.reduceEqDiff, Nat.reduceMul, Nat.add_left_cancel_iff, not_false_eq_true, m61, m39, e1, e2, e3, e4, e5, r1, r2, r3, r4, r5]
  refine WpM_SP hin (fun w h2 _ z => ?_)
  obtain ⟨rfl, hR2, hK2⟩ := z
  simp only [jL_law_1190, w0, w1, w2i, w2r, w3, w4, w5_0, w5_1, w5_2, w5_3, w5_4, w5_5, w5_6, w5_7, w5_8, w6_0, w6_1, w7_0, w7_1, w7_2, w7_3, w7_4, w7_5, w8_0, w8_1, w9_0, w9_1, w9_2, w10_0, w10_1, w10_2, w10_3, w10_4, w10_5, w11, w12_0, w12_1, w12_2, w12_3, w12_4, w12_5, w13_0, w13_1, w13_2, w13_3, w13_4, w13_5, w14, w15i, w15r, w16, w17, w18, w19i, w19z, w19l, w20, w21, w22, w23, w24, w25, w26, w27, w28_1, w28_2, w28_3, w28_4, w28_5, w28_6, w29, w30i, w30z, w31, w32, w33, w34, w35, w36, w37_1, w37_2, w37_3, w37_4, w37_5, w37_6, isO_O, set1_0, set1_1i, set1_1r, set1_1n, set1_1l, set1_s, set2_0, set2_1i, set2_1r, set2_1n, set2_1l, set2_s, ldv_i, ldv_l, ldv_r, ldv_s, ldi_i, ldi_s, fK_0, fK_s, gfc_O, fS_0, fS_s, uH_s, uH_n, uH_u, tl_s, tl_n, b1_0, b1_1, ite_true, ite_false, if_true, if_false, List.length_nil, List.length_cons, Nat.zero_le, Nat.zero_add, Nat.reduceAdd, Nat.reduceLeDiff, Nat.reduceLT, Nat.reduceEqDiff, Nat.reduceMul, Nat.add_left_cancel_iff, not_false_eq_true, if_true]
  exact K h2 hR2 hK2
theorem law_loop {Q : Option Value → AH → Prop} {L : Nat} {xs : Nat → Int32} (hL : L ≤ 3072) (K : ∀ h, Q (some (.int 1)) h) : ∀ (d i : Nat) (h : AH), L ≤ i + 6 * d → i ≤ L + 6 → RR h → LK h → Wp (some (L, xs)) 144 qL_law_18 [some (.ref 61), some (.ref 0), some (.ref 39), some (.int (nI i))] [] h Q := by
  intro d
  induction d with
  | zero =>
    intro i h hd hi hR hK
    have c := lpz_c hL (show i ≤ 4000 by omega)
    have c2 : L < i + 6 := by omega
    rw [qL_law_18]
    simp only [qL_law_1196, jL_law_1196, w0, w1, w2i, w2r, w3, w4, w5_0, w5_1, w5_2, w5_3, w5_4, w5_5, w5_6, w5_7, w5_8, w6_0, w6_1, w7_0, w7_1, w7_2, w7_3, w7_4, w7_5, w8_0, w8_1, w9_0, w9_1, w9_2, w10_0, w10_1, w10_2, w10_3, w10_4, w10_5, w11, w12_0, w12_1, w12_2, w12_3, w12_4, w12_5, w13_0, w13_1, w13_2, w13_3, w13_4, w13_5, w14, w15i, w15r, w16, w17, w18, w19i, w19z, w19l, w20, w21, w22, w23, w24, w25, w26, w27, w28_1, w28_2, w28_3, w28_4, w28_5, w28_6, w29, w30i, w30z, w31, w32, w33, w34, w35, w36, w37_1, w37_2, w37_3, w37_4, w37_5, w37_6, isO_O, set1_0, set1_1i, set1_1r, set1_1n, set1_1l, set1_s, set2_0, set2_1i, set2_1r, set2_1n, set2_1l, set2_s, ldv_i, ldv_l, ldv_r, ldv_s, ldi_i, ldi_s, fK_0, fK_s, gfc_O, fS_0, fS_s, uH_s, uH_n, uH_u, tl_s, tl_n, b1_0, b1_1, ite_true, ite_false, if_true, if_false, List.length_nil, List.length_cons, Nat.zero_le, Nat.zero_add, Nat.reduceAdd, Nat.reduceLeDiff, Nat.reduceLT, Nat.reduceEqDiff, Nat.reduceMul, Nat.add_left_cancel_iff, not_false_eq_true, hK.1, lls, c, c2]
    exact K h
  | succ d ih =>
    intro i h hd hi hR hK
    have c := lpz_c hL (show i ≤ 4000 by omega)
    by_cases c2 : L < i + 6
    · rw [qL_law_18]
      simp only [qL_law_1196, jL_law_1196, w0, w1, w2i, w2r, w3, w4, w5_0, w5_1, w5_2, w5_3, w5_4, w5_5, w5_6, w5_7, w5_8, w6_0, w6_1, w7_0, w7_1, w7_2, w7_3, w7_4, w7_5, w8_0, w8_1, w9_0, w9_1, w9_2, w10_0, w10_1, w10_2, w10_3, w10_4, w10_5, w11, w12_0, w12_1, w12_2, w12_3, w12_4, w12_5, w13_0, w13_1, w13_2, w13_3, w13_4, w13_5, w14, w15i, w15r, w16, w17, w18, w19i, w19z, w19l, w20, w21, w22, w23, w24, w25, w26, w27, w28_1, w28_2, w28_3, w28_4, w28_5, w28_6, w29, w30i, w30z, w31, w32, w33, w34, w35, w36, w37_1, w37_2, w37_3, w37_4, w37_5, w37_6, isO_O, set1_0, set1_1i, set1_1r, set1_1n, set1_1l, set1_s, set2_0, set2_1i, set2_1r, set2_1n, set2_1l, set2_s, ldv_i, ldv_l, ldv_r, ldv_s, ldi_i, ldi_s, fK_0, fK_s, gfc_O, fS_0, fS_s, uH_s, uH_n, uH_u, tl_s, tl_n, b1_0, b1_1, ite_true, ite_false, if_true, if_false, List.length_nil, List.length_cons, Nat.zero_le, Nat.zero_add, Nat.reduceAdd, Nat.reduceLeDiff, Nat.reduceLT, Nat.reduceEqDiff, Nat.reduceMul, Nat.add_left_cancel_iff, not_false_eq_true, hK.1, lls, c, c2]
      exact K h
    · have KK : ∀ h2, RR h2 → LK h2 → Wp (some (L, xs)) 144 qL_law_1190 [some (.ref 61), some (.ref 0), some (.ref 39), some (.int (nI i))] [] h2 Q := fun h2 hR2 hK2 => by
        have e6 : nI i + 6 = nI (i + 6) := nI_add i 6
        rw [qL_law_1190]
        simp only [jL_law_18, w0, w1, w2i, w2r, w3, w4, w5_0, w5_1, w5_2, w5_3, w5_4, w5_5, w5_6, w5_7, w5_8, w6_0, w6_1, w7_0, w7_1, w7_2, w7_3, w7_4, w7_5, w8_0, w8_1, w9_0, w9_1, w9_2, w10_0, w10_1, w10_2, w10_3, w10_4, w10_5, w11, w12_0, w12_1, w12_2, w12_3, w12_4, w12_5, w13_0, w13_1, w13_2, w13_3, w13_4, w13_5, w14, w15i, w15r, w16, w17, w18, w19i, w19z, w19l, w20, w21, w22, w23, w24, w25, w26, w27, w28_1, w28_2, w28_3, w28_4, w28_5, w28_6, w29, w30i, w30z, w31, w32, w33, w34, w35, w36, w37_1, w37_2, w37_3, w37_4, w37_5, w37_6, isO_O, set1_0, set1_1i, set1_1r, set1_1n, set1_1l, set1_s, set2_0, set2_1i, set2_1r, set2_1n, set2_1l, set2_s, ldv_i, ldv_l, ldv_r, ldv_s, ldi_i, ldi_s, fK_0, fK_s, gfc_O, fS_0, fS_s, uH_s, uH_n, uH_u, tl_s, tl_n, b1_0, b1_1, ite_true, ite_false, if_true, if_false, List.length_nil, List.length_cons, Nat.zero_le, Nat.zero_add, Nat.reduceAdd, Nat.reduceLeDiff, Nat.reduceLT, Nat.reduceEqDiff, Nat.reduceMul, Nat.add_left_cancel_iff, not_false_eq_true, e6]
        exact ih (i + 6) h2 (by omega) (by omega) hR2 hK2
      rw [qL_law_18]
      simp only [w0, w1, w2i, w2r, w3, w4, w5_0, w5_1, w5_2, w5_3, w5_4, w5_5, w5_6, w5_7, w5_8, w6_0, w6_1, w7_0, w7_1, w7_2, w7_3, w7_4, w7_5, w8_0, w8_1, w9_0, w9_1, w9_2, w10_0, w10_1, w10_2, w10_3, w10_4, w10_5, w11, w12_0, w12_1, w12_2, w12_3, w12_4, w12_5, w13_0, w13_1, w13_2, w13_3, w13_4, w13_5, w14, w15i, w15r, w16, w17, w18, w19i, w19z, w19l, w20, w21, w22, w23, w24, w25, w26, w27, w28_1, w28_2, w28_3, w28_4, w28_5, w28_6, w29, w30i, w30z, w31, w32, w33, w34, w35, w36, w37_1, w37_2, w37_3, w37_4, w37_5, w37_6, isO_O, set1_0, set1_1i, set1_1r, set1_1n, set1_1l, set1_s, set2_0, set2_1i, set2_1r, set2_1n, set2_1l, set2_s, ldv_i, ldv_l, ldv_r, ldv_s, ldi_i, ldi_s, fK_0, fK_s, gfc_O, fS_0, fS_s, uH_s, uH_n, uH_u, tl_s, tl_n, b1_0, b1_1, ite_true, ite_false, if_true, if_false, List.length_nil, List.length_cons, Nat.zero_le, Nat.zero_add, Nat.reduceAdd, Nat.reduceLeDiff, Nat.reduceLT, Nat.reduceEqDiff, Nat.reduceMul, Nat.add_left_cancel_iff, not_false_eq_true, hK.1, lls, c, c2, rIs (xs := xs) (show i < L by omega) hL]
      generalize xs i &&& 31 = w
      have fin : ∀ t, (t = 1190 ∨ t ∈ [160, 193, 236, 269, 312, 335, 368, 431, 444, 467, 501, 545, 579, 643, 687, 700, 723, 757, 780, 823, 866, 879, 892, 935, 978, 1021, 1044, 1127]) → Wp (some (L, xs)) 144 (J 144 t) [some (.ref 61), some (.ref 0), some (.ref 39), some (.int (nI i))] [] h Q := by
        intro t ht
        rcases ht with rfl | ht
        · rw [jL_law_1190]; exact KK h hR hK
        · simp only [List.mem_cons, List.not_mem_nil, or_false] at ht
          rcases ht with rfl | rfl | rfl | rfl | rfl | rfl | rfl | rfl | rfl | rfl | rfl | rfl | rfl | rfl | rfl | rfl | rfl | rfl | rfl | rfl | rfl | rfl | rfl | rfl | rfl | rfl | rfl | rfl
          · rw [jL_law_160]; exact lpz_house hL (by omega) hR hK KK
          · rw [jL_law_193]; exact lpz_share hL (by omega) hR hK KK
          · rw [jL_law_236]; exact lpz_ask hL (by omega) hR hK KK
          · rw [jL_law_269]; exact lpz_set hL (by omega) hR hK KK
          · rw [jL_law_312]; exact lpz_purse hL (by omega) hR hK KK
          · rw [jL_law_335]; exact lpz_told hL (by omega) hR hK KK
          · rw [jL_law_368]; exact lpz_type hL (by omega) hR hK KK
          · rw [jL_law_431]; exact lpz_town hL (by omega) hR hK KK
          · rw [jL_law_444]; exact lpz_count hL (by omega) hR hK KK
          · rw [jL_law_467]; exact lpz_rent hL (by omega) hR hK KK
          · rw [jL_law_501]; exact lpz_moves hL (by omega) hR hK KK
          · rw [jL_law_545]; exact lpz_walk hL (by omega) hR hK KK
          · rw [jL_law_579]; exact lpz_change hL (by omega) hR hK KK
          · rw [jL_law_643]; exact lpz_pulled hL (by omega) hR hK KK
          · rw [jL_law_687]; exact lpz_year hL (by omega) hR hK KK
          · rw [jL_law_700]; exact lpz_near hL (by omega) hR hK KK
          · rw [jL_law_723]; exact lpz_income hL (by omega) hR hK KK
          · rw [jL_law_757]; exact lpz_best hL (by omega) hR hK KK
          · rw [jL_law_780]; exact lpz_rests hL (by omega) hR hK KK
          · rw [jL_law_823]; exact lpz_bought hL (by omega) hR hK KK
          · rw [jL_law_866]; exact lpz_image hL (by omega) hR hK KK
          · rw [jL_law_879]; exact lpz_restore hL (by omega) hR hK KK
          · rw [jL_law_892]; exact lpz_book hL (by omega) hR hK KK
          · rw [jL_law_935]; exact lpz_film hL (by omega) hR hK KK
          · rw [jL_law_978]; exact lpz_sheet hL (by omega) hR hK KK
          · rw [jL_law_1021]; exact lpz_drop hL (by omega) hR hK KK
          · rw [jL_law_1044]; exact lpz_item hL (by omega) hR hK KK
          · rw [jL_law_1127]; exact lpz_copy hL (by omega) hR hK KK
      have sw : ∀ (ts : List (Int32 × Nat)), (∀ p, p ∈ ts → p.2 ∈ [160, 193, 236, 269, 312, 335, 368, 431, 444, 467, 501, 545, 579, 643, 687, 700, 723, 757, 780, 823, 866, 879, 892, 935, 978, 1021, 1044, 1127]) → (swT w 1190 ts = 1190 ∨ swT w 1190 ts ∈ [160, 193, 236, 269, 312, 335, 368, 431, 444, 467, 501, 545, 579, 643, 687, 700, 723, 757, 780, 823, 866, 879, 892, 935, 978, 1021, 1044, 1127]) := by
        intro ts
        induction ts with
        | nil => intro _; exact Or.inl rfl
        | cons p ts ih2 =>
          intro hp
          show (if w = p.1 then p.2 else swT w 1190 ts) = 1190 ∨ (if w = p.1 then p.2 else swT w 1190 ts) ∈ [160, 193, 236, 269, 312, 335, 368, 431, 444, 467, 501, 545, 579, 643, 687, 700, 723, 757, 780, 823, 866, 879, 892, 935, 978, 1021, 1044, 1127]
          by_cases e : w = p.1
          · rw [if_pos e]; exact Or.inr (hp p List.mem_cons_self)
          · rw [if_neg e]; exact ih2 (fun q hq => hp q (List.mem_cons_of_mem _ hq))
      exact fin _ (sw _ (by decide))

/-! the pairs of public methods: what they say, and what stays -/
def Pr (kC kM : Nat) (as : List Value) : Prop := ∀ h, RR h → WpM kC (.ref 0 :: as) h (fun v h1 => WpM kM (.ref 39 :: as) h1 (fun w h2 => (∃ x : Int32, v = some (.int x) ∧ w = some (.int x)) ∧ RR h2))
def PrL (kC kM : Nat) (as : List Value) : Prop := ∀ h, RR h → WpM kC (.ref 0 :: as) h (fun v h1 => WpM kM (.ref 39 :: as) h1 (fun w h2 => (∃ x : Int64, v = some (.long x) ∧ w = some (.long x)) ∧ RR h2))
theorem wd0 (a : Int32) : (a.toInt64 < 0) = (a < 0) := propext (fa_wide_lt a 0)
theorem wd1 (a : Int32) : (1 < a.toInt64) = (1 < a) := propext (fa_wide_lt 1 a)
theorem wd2 (a : Int32) : (2 < a.toInt64) = (2 < a) := propext (fa_wide_lt 2 a)
theorem wd3 (a : Int32) : (3 < a.toInt64) = (3 < a) := propext (fa_wide_lt 3 a)
theorem wd5 (a : Int32) : (5 < a.toInt64) = (5 < a) := propext (fa_wide_lt 5 a)
theorem wd99 (a : Int32) : (99 < a.toInt64) = (99 < a) := propext (fa_wide_lt 99 a)
theorem in_nI {m : Nat} {a : Int32} (hm : m ≤ 8) (h0 : ¬ (a < 0 ∨ nI m ≤ a)) : ∃ j, j < m ∧ a = nI j := by
  have h1 : ¬ a < 0 := fun z => h0 (Or.inl z)
  have h2 : ¬ nI m ≤ a := fun z => h0 (Or.inr z)
  rw [fa_lt] at h1
  rw [fa_le, nI_toInt (by omega)] at h2
  have z : (0 : Int32).toInt = 0 := rfl
  refine ⟨a.toInt.toNat, by omega, ?_⟩
  apply Int32.toInt_inj.mp
  rw [nI_toInt (by omega)]
  omega
theorem in_bd {a : Int32} {k : Int32} (h0 : ¬ (a < 0 ∨ k < a)) : 0 ≤ a.toInt ∧ a.toInt ≤ k.toInt := by
  have h1 : ¬ a < 0 := fun z => h0 (Or.inl z)
  have h2 : ¬ k < a := fun z => h0 (Or.inr z)
  rw [fa_lt] at h1 h2
  have z : (0 : Int32).toInt = 0 := rfl
  omega
/-- nothing but S has changed -/
def NS (S : List Nat) (h h' : AH) : Prop := ∀ q, q ∉ S → h' q = h q
theorem NS.r {S : List Nat} {h : AH} : NS S h h := fun _ _ => rfl
theorem NS.u {S : List Nat} {h h' : AH} {a : Nat} {c : AC} (H : NS S h h') (ha : a ∈ S) : NS S h (uH h' a c) := by
  intro q hq
  rw [uH_n _ _ (fun z => hq (by rw [z]; exact ha))]
  exact H q hq
theorem NS.t {S : List Nat} {h h' h'' : AH} (H : NS S h h') (H' : NS S h' h'') : NS S h h'' := fun q hq => (H' q hq).trans (H q hq)
theorem NS.m {S S' : List Nat} {h h' : AH} (H : NS S h h') (hs : ∀ q, q ∈ S → q ∈ S') : NS S' h h' := fun q hq => H q (fun z => hq (hs q z))
theorem uH_k {L : List Nat} {h : AH} {q a : Nat} {c : AC} (hq : q ∈ L) (ha : a ∉ L) : uH h a c q = h q := uH_n _ _ (fun z => ha (by rw [← z]; exact hq))
def L1 : List Nat := [1, 2, 3, 4, 5, 6, 40, 41, 42, 43, 44]
def L2 : List Nat := [0, 8, 9, 10, 11, 12, 13, 56]
def L3 : List Nat := [26, 27, 45]
def L4 : List Nat := [31, 32, 33, 34, 35, 36, 37, 38, 57, 58, 59]
theorem V1_ag {h h' : AH} (e : ∀ q, q ∈ L1 → h' q = h q) (f0 : fI (h' 39) 0 = fI (h 39) 0) (f6 : fI (h' 39) 6 = fI (h 39) 6) (f7 : fI (h' 39) 7 = fI (h 39) 7) (f8 : fI (h' 39) 8 = fI (h 39) 8) (v : V1 h) : V1 h' := by
  unfold V1 at v ⊢
  rw [e 1 (by decide), e 2 (by decide), e 3 (by decide), e 4 (by decide), e 5 (by decide), e 6 (by decide), e 40 (by decide), e 41 (by decide), e 42 (by decide), e 43 (by decide), e 44 (by decide), f0, f6, f7, f8]
  exact v
theorem V2_ag {h h' : AH} (e : ∀ q, q ∈ L2 → h' q = h q) (f : fI (h' 39) 27 = fI (h 39) 27) (v : V2 h) : V2 h' := by
  unfold V2 at v ⊢
  rw [e 0 (by decide), e 8 (by decide), e 9 (by decide), e 10 (by decide), e 11 (by decide), e 12 (by decide), e 13 (by decide), e 56 (by decide), f]
  exact v
theorem V3_ag {h h' : AH} (e : ∀ q, q ∈ L3 → h' q = h q) (f : fI (h' 39) 10 = fI (h 39) 10) (v : V3 h) : V3 h' := by
  unfold V3 at v ⊢
  rw [e 26 (by decide), e 27 (by decide), e 45 (by decide), f]
  exact v
theorem V4_ag {h h' : AH} (e : ∀ q, q ∈ L4 → h' q = h q) (v : V4 h) : V4 h' := by
  unfold V4 at v ⊢
  rw [e 31 (by decide), e 32 (by decide), e 33 (by decide), e 34 (by decide), e 35 (by decide), e 36 (by decide), e 37 (by decide), e 38 (by decide), e 57 (by decide), e 58 (by decide), e 59 (by decide)]
  exact v
/-- the cells that no promise speaks of -/
def SC : List Nat := [7, 14, 15, 16, 17, 18, 19, 20, 21, 22, 23, 24, 25, 29, 30]
def SM : List Nat := [39, 46, 47, 48, 49, 50, 51, 52, 53, 54, 55, 60]
theorem RR_ns {h h' : AH} {ho pu ye bo ta ax wr : Int32} {be : Int64} {kn pr im ax' wr' : Int32} {be' : Int64} {kn' pr' : Int32} (hR : RR h) (hS : Sh h') (hN : NS (SC ++ SM) h h') (c39 : h 39 = mO ho pu ye bo ta ax wr be kn pr im) (d39 : h' 39 = mO ho pu ye bo ta ax' wr' be' kn' pr' im) : RR h' := by
  obtain ⟨-, v1, v2, v3, v4⟩ := hR
  have k1 : ∀ q, q ∈ L1 → q ∉ SC ++ SM := by decide
  have k2 : ∀ q, q ∈ L2 → q ∉ SC ++ SM := by decide
  have k3 : ∀ q, q ∈ L3 → q ∉ SC ++ SM := by decide
  have k4 : ∀ q, q ∈ L4 → q ∉ SC ++ SM := by decide
  refine ⟨hS, V1_ag (fun q hq => hN q (k1 q hq)) ?_ ?_ ?_ ?_ v1, V2_ag (fun q hq => hN q (k2 q hq)) ?_ v2, V3_ag (fun q hq => hN q (k3 q hq)) ?_ v3, V4_ag (fun q hq => hN q (k4 q hq)) v4⟩ <;> (rw [c39, d39]; rfl)
theorem upd_s {f : Nat → Int32} {k : Nat} {x : Int32} : upd f k x k = x := by simp [upd]
theorem upd_n {f : Nat → Int32} {k j : Nat} {x : Int32} (hj : ¬ j = k) : upd f k x j = f j := by simp [upd, hj]

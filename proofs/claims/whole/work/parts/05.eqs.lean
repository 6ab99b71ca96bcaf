/-! THE OWN ABSTRACT MACHINE: each operation as an equation of Wp -/
theorem kl_0 (l : Lo) : kl l 0 = l := rfl
theorem set1_0 (x : Option Value) (l : Lo) (v : Value) : set1 (x :: l) 0 v = some v :: l := rfl
theorem set1_1i (y : Int32) (x : Option Value) (l : Lo) (v : Value) : set1 (some (.int y) :: x :: l) 1 v = some (.int y) :: some v :: l := rfl
theorem set1_1r (y : Nat) (x : Option Value) (l : Lo) (v : Value) : set1 (some (.ref y) :: x :: l) 1 v = some (.ref y) :: some v :: l := rfl
theorem set1_1n (x : Option Value) (l : Lo) (v : Value) : set1 (none :: x :: l) 1 v = none :: some v :: l := rfl
theorem set1_1l (y : Int64) (x : Option Value) (l : Lo) (v : Value) : set1 (some (.long y) :: x :: l) 1 v = none :: some v :: l := rfl
theorem kl_s (x : Option Value) (l : Lo) (a : Nat) : kl (x :: l) (a + 2) = x :: kl l (a + 1) := by
  simp only [kl, List.getElem?_cons_succ]
  generalize l[a]? = z
  rcases z with _ | _ | y
  · rfl
  · rfl
  · cases y <;> rfl
theorem set1_s (x : Option Value) (l : Lo) (a : Nat) (v : Value) : set1 (x :: l) (a + 2) v = x :: set1 l (a + 1) v := by
  unfold set1
  rw [kl_s]
  rfl
theorem set2_0 (x y : Option Value) (l : Lo) (v : Value) : set2 (x :: y :: l) 0 v = some v :: none :: l := rfl
theorem set2_1i (y : Int32) (x z : Option Value) (l : Lo) (v : Value) : set2 (some (.int y) :: x :: z :: l) 1 v = some (.int y) :: some v :: none :: l := rfl
theorem set2_1r (y : Nat) (x z : Option Value) (l : Lo) (v : Value) : set2 (some (.ref y) :: x :: z :: l) 1 v = some (.ref y) :: some v :: none :: l := rfl
theorem set2_1n (x z : Option Value) (l : Lo) (v : Value) : set2 (none :: x :: z :: l) 1 v = none :: some v :: none :: l := rfl
theorem set2_1l (y : Int64) (x z : Option Value) (l : Lo) (v : Value) : set2 (some (.long y) :: x :: z :: l) 1 v = none :: some v :: none :: l := rfl
theorem set2_s (x : Option Value) (l : Lo) (a : Nat) (v : Value) : set2 (x :: l) (a + 2) v = x :: set2 l (a + 1) v := by
  unfold set2
  rw [kl_s]
  rfl
/-- the value of a local, of its kind -/
def ldv (K : Value → Prop) : Lo → Nat → Nat → Prop
  | [], _, _ => False
  | some (.int x) :: _, 0, 0 => K (.int x)
  | some (.long x) :: _, 0, 1 => K (.long x)
  | some (.ref x) :: _, 0, 2 => K (.ref x)
  | _ :: _, 0, _ => False
  | _ :: l, a + 1, b => ldv K l a b
theorem ldv_i (K : Value → Prop) (x : Int32) (l : Lo) : ldv K (some (.int x) :: l) 0 0 = K (.int x) := rfl
theorem ldv_l (K : Value → Prop) (x : Int64) (l : Lo) : ldv K (some (.long x) :: l) 0 1 = K (.long x) := rfl
theorem ldv_r (K : Value → Prop) (x : Nat) (l : Lo) : ldv K (some (.ref x) :: l) 0 2 = K (.ref x) := rfl
theorem ldv_s (K : Value → Prop) (x : Option Value) (l : Lo) (a b : Nat) : ldv K (x :: l) (a + 1) b = ldv K l a b := by rw [ldv]
def ldi (K : Int32 → Prop) : Lo → Nat → Prop
  | [], _ => False
  | some (.int x) :: _, 0 => K x
  | _ :: _, 0 => False
  | _ :: l, a + 1 => ldi K l a
theorem ldi_i (K : Int32 → Prop) (x : Int32) (l : Lo) : ldi K (some (.int x) :: l) 0 = K x := rfl
theorem ldi_s (K : Int32 → Prop) (x : Option Value) (l : Lo) (a : Nat) : ldi K (x :: l) (a + 1) = ldi K l a := by rw [ldi]
section EQS
variable {X : SX} {m pc ln a b : Nat} {v : Value} {ts : List (Int32 × Nat)} {c : List CE} {l : Lo} {st : List Value} {h : AH} {Q : Option Value → AH → Prop}
theorem w0 : Wp X m ((pc, ln, 0, a, b, v, ts) :: c) l st h Q = Wp X m c l (v :: st) h Q := Wp_go (j := none) rfl
theorem s1_eq (l' : Lo) (l0 : Lo) : ∀ (l1 : Lo) (a : Nat), (match s1 a b l1 st h with | some (.inl (j, _, st', h')) => Wp X m (jmp m j c) l0 st' h' Q | _ => False) = ldv (fun v => Wp X m c l0 (v :: st) h Q) l1 a b := by
  intro l1
  induction l1 with
  | nil => intro a; simp [s1, ldv]
  | cons x l1 ih =>
    intro a
    cases a with
    | zero =>
      rcases x with _ | x
      · simp [s1, ldv]
      · cases x <;> rcases b with _ | _ | _ | b <;> simp [s1, ldv, nx, jmp]
    | succ a =>
      rw [ldv_s, ← ih a]
      simp only [s1, List.getElem?_cons_succ]
      rcases l1[a]? with _ | _ | y
      · rfl
      · rfl
      · cases y <;> rcases b with _ | _ | _ | b <;> rfl
theorem w1 : Wp X m ((pc, ln, 1, a, b, v, ts) :: c) l st h Q = ldv (fun v => Wp X m c l (v :: st) h Q) l a b := by
  rw [← s1_eq (X := X) (m := m) (c := c) (st := st) (h := h) (Q := Q) l l l a]
  have e : stp X (pc, ln, 1, a, b, v, ts) l st h = s1 a b l st h := rfl
  cases hs : s1 a b l st h with
  | none => rw [Wp_no (e.trans hs)]
  | some o =>
    rw [hs] at e
    unfold s1 at hs
    split at hs <;> first | (cases hs; rw [Wp_go e]; done) | (cases hs)
theorem w2i {x : Int32} : Wp X m ((pc, ln, 2, a, 0, v, ts) :: c) l (.int x :: st) h Q = Wp X m c (set1 l a (.int x)) st h Q := Wp_go (j := none) rfl
theorem w2r {x : Nat} : Wp X m ((pc, ln, 2, a, 2, v, ts) :: c) l (.ref x :: st) h Q = Wp X m c (set1 l a (.ref x)) st h Q := Wp_go (j := none) rfl
theorem w3 {x : Int64} : Wp X m ((pc, ln, 3, a, b, v, ts) :: c) l (.long x :: st) h Q = Wp X m c (set2 l a (.long x)) st h Q := Wp_go (j := none) rfl
theorem s4_eq (d : Int32) (l0 : Lo) : ∀ (l1 : Lo) (a0 : Nat), (match l1[a0]? with | some (some (.int x)) => Wp X m c (set1 l0 a (.int (x + d))) st h Q | _ => False) = ldi (fun x => Wp X m c (set1 l0 a (.int (x + d))) st h Q) l1 a0 := by
  intro l1
  induction l1 with
  | nil => intro a0; simp [ldi]
  | cons x l1 ih =>
    intro a0
    cases a0 with
    | zero =>
      rcases x with _ | x
      · simp [ldi]
      · cases x <;> simp [ldi]
    | succ a0 =>
      rw [ldi_s, ← ih a0]
      simp only [List.getElem?_cons_succ]
theorem w4 {d : Int32} : Wp X m ((pc, ln, 4, a, b, .int d, ts) :: c) l st h Q = ldi (fun x => Wp X m c (set1 l a (.int (x + d))) st h Q) l a := by
  rw [← s4_eq (X := X) (m := m) (c := c) (st := st) (h := h) (Q := Q) d l l a]
  have e : stp X (pc, ln, 4, a, b, .int d, ts) l st h = s4 a (.int d) l st h := rfl
  unfold s4 at e
  rcases hl : l[a]? with _ | _ | y
  · rw [hl] at e; rw [Wp_no e]
  · rw [hl] at e; rw [Wp_no e]
  · rw [hl] at e
    cases y <;> first | rw [Wp_go e]; rfl | rw [Wp_no e]
theorem w5_0 {x y : Int32} : Wp X m ((pc, ln, 5, a, 0, v, ts) :: c) l (.int y :: .int x :: st) h Q = Wp X m c l (.int (x + y) :: st) h Q := Wp_go (j := none) rfl
theorem w5_1 {x y : Int32} : Wp X m ((pc, ln, 5, a, 1, v, ts) :: c) l (.int y :: .int x :: st) h Q = Wp X m c l (.int (x - y) :: st) h Q := Wp_go (j := none) rfl
theorem w5_2 {x y : Int32} : Wp X m ((pc, ln, 5, a, 2, v, ts) :: c) l (.int y :: .int x :: st) h Q = Wp X m c l (.int (x * y) :: st) h Q := Wp_go (j := none) rfl
theorem w5_3 {x y : Int32} : Wp X m ((pc, ln, 5, a, 3, v, ts) :: c) l (.int y :: .int x :: st) h Q = Wp X m c l (.int (x &&& y) :: st) h Q := Wp_go (j := none) rfl
theorem w5_4 {x y : Int32} : Wp X m ((pc, ln, 5, a, 4, v, ts) :: c) l (.int y :: .int x :: st) h Q = Wp X m c l (.int (x ||| y) :: st) h Q := Wp_go (j := none) rfl
theorem w5_5 {x y : Int32} : Wp X m ((pc, ln, 5, a, 5, v, ts) :: c) l (.int y :: .int x :: st) h Q = Wp X m c l (.int (x ^^^ y) :: st) h Q := Wp_go (j := none) rfl
theorem w5_6 {x y : Int32} : Wp X m ((pc, ln, 5, a, 6, v, ts) :: c) l (.int y :: .int x :: st) h Q = Wp X m c l (.int (x <<< (y &&& 31)) :: st) h Q := Wp_go (j := none) rfl
theorem w5_7 {x y : Int32} : Wp X m ((pc, ln, 5, a, 7, v, ts) :: c) l (.int y :: .int x :: st) h Q = Wp X m c l (.int (x >>> (y &&& 31)) :: st) h Q := Wp_go (j := none) rfl
theorem w5_8 {x y : Int32} : Wp X m ((pc, ln, 5, a, 8, v, ts) :: c) l (.int y :: .int x :: st) h Q = Wp X m c l (.int ((x.toUInt32 >>> (y.toUInt32 &&& Int32.toUInt32 31)).toInt32) :: st) h Q := Wp_go (j := none) rfl
theorem w6_0 {x y : Int32} : Wp X m ((pc, ln, 6, a, 0, v, ts) :: c) l (.int y :: .int x :: st) h Q = if y = 0 then False else Wp X m c l (.int (x / y) :: st) h Q := by
  have e : stp X (pc, ln, 6, a, 0, v, ts) l (.int y :: .int x :: st) h = if y = 0 then none else nx l (.int (x / y) :: st) h := rfl
  by_cases hy : y = 0
  · rw [if_pos hy] at e ⊢; exact Wp_no e
  · rw [if_neg hy] at e ⊢; exact Wp_go (j := none) e
theorem w6_1 {x y : Int32} : Wp X m ((pc, ln, 6, a, 1, v, ts) :: c) l (.int y :: .int x :: st) h Q = if y = 0 then False else Wp X m c l (.int (x - x / y * y) :: st) h Q := by
  have e : stp X (pc, ln, 6, a, 1, v, ts) l (.int y :: .int x :: st) h = if y = 0 then none else nx l (.int (x - x / y * y) :: st) h := rfl
  by_cases hy : y = 0
  · rw [if_pos hy] at e ⊢; exact Wp_no e
  · rw [if_neg hy] at e ⊢; exact Wp_go (j := none) e
theorem w7_0 {x y : Int64} : Wp X m ((pc, ln, 7, a, 0, v, ts) :: c) l (.long y :: .long x :: st) h Q = Wp X m c l (.long (x + y) :: st) h Q := Wp_go (j := none) rfl
theorem w7_1 {x y : Int64} : Wp X m ((pc, ln, 7, a, 1, v, ts) :: c) l (.long y :: .long x :: st) h Q = Wp X m c l (.long (x - y) :: st) h Q := Wp_go (j := none) rfl
theorem w7_2 {x y : Int64} : Wp X m ((pc, ln, 7, a, 2, v, ts) :: c) l (.long y :: .long x :: st) h Q = Wp X m c l (.long (x * y) :: st) h Q := Wp_go (j := none) rfl
theorem w7_3 {x y : Int64} : Wp X m ((pc, ln, 7, a, 3, v, ts) :: c) l (.long y :: .long x :: st) h Q = Wp X m c l (.long (x &&& y) :: st) h Q := Wp_go (j := none) rfl
theorem w7_4 {x y : Int64} : Wp X m ((pc, ln, 7, a, 4, v, ts) :: c) l (.long y :: .long x :: st) h Q = Wp X m c l (.long (x ||| y) :: st) h Q := Wp_go (j := none) rfl
theorem w7_5 {x y : Int64} : Wp X m ((pc, ln, 7, a, 5, v, ts) :: c) l (.long y :: .long x :: st) h Q = Wp X m c l (.long (x ^^^ y) :: st) h Q := Wp_go (j := none) rfl
theorem w8_0 {x y : Int64} : Wp X m ((pc, ln, 8, a, 0, v, ts) :: c) l (.long y :: .long x :: st) h Q = if y = 0 then False else Wp X m c l (.long (x / y) :: st) h Q := by
  have e : stp X (pc, ln, 8, a, 0, v, ts) l (.long y :: .long x :: st) h = if y = 0 then none else nx l (.long (x / y) :: st) h := rfl
  by_cases hy : y = 0
  · rw [if_pos hy] at e ⊢; exact Wp_no e
  · rw [if_neg hy] at e ⊢; exact Wp_go (j := none) e
theorem w8_1 {x y : Int64} : Wp X m ((pc, ln, 8, a, 1, v, ts) :: c) l (.long y :: .long x :: st) h Q = if y = 0 then False else Wp X m c l (.long (x - x / y * y) :: st) h Q := by
  have e : stp X (pc, ln, 8, a, 1, v, ts) l (.long y :: .long x :: st) h = if y = 0 then none else nx l (.long (x - x / y * y) :: st) h := rfl
  by_cases hy : y = 0
  · rw [if_pos hy] at e ⊢; exact Wp_no e
  · rw [if_neg hy] at e ⊢; exact Wp_go (j := none) e
theorem w9_0 {x : Int64} {y : Int32} : Wp X m ((pc, ln, 9, a, 0, v, ts) :: c) l (.int y :: .long x :: st) h Q = Wp X m c l (.long (x <<< (y.toInt64 &&& 63)) :: st) h Q := Wp_go (j := none) rfl
theorem w9_1 {x : Int64} {y : Int32} : Wp X m ((pc, ln, 9, a, 1, v, ts) :: c) l (.int y :: .long x :: st) h Q = Wp X m c l (.long (x >>> (y.toInt64 &&& 63)) :: st) h Q := Wp_go (j := none) rfl
theorem w9_2 {x : Int64} {y : Int32} : Wp X m ((pc, ln, 9, a, 2, v, ts) :: c) l (.int y :: .long x :: st) h Q = Wp X m c l (.long ((x.toUInt64 >>> (y.toInt64.toUInt64 &&& Int64.toUInt64 63)).toInt64) :: st) h Q := Wp_go (j := none) rfl
theorem w10_0 {x : Int32} : Wp X m ((pc, ln, 10, a, 0, v, ts) :: c) l (.int x :: st) h Q = Wp X m c l (.int (-x) :: st) h Q := Wp_go (j := none) rfl
theorem w10_1 {x : Int64} : Wp X m ((pc, ln, 10, a, 1, v, ts) :: c) l (.long x :: st) h Q = Wp X m c l (.long (-x) :: st) h Q := Wp_go (j := none) rfl
theorem w10_2 {x : Int32} : Wp X m ((pc, ln, 10, a, 2, v, ts) :: c) l (.int x :: st) h Q = Wp X m c l (.long (x.toInt64) :: st) h Q := Wp_go (j := none) rfl
theorem w10_3 {x : Int64} : Wp X m ((pc, ln, 10, a, 3, v, ts) :: c) l (.long x :: st) h Q = Wp X m c l (.int (x.toInt32) :: st) h Q := Wp_go (j := none) rfl
theorem w10_4 {x : Int32} : Wp X m ((pc, ln, 10, a, 4, v, ts) :: c) l (.int x :: st) h Q = Wp X m c l (.int (x.toInt8.toInt32) :: st) h Q := Wp_go (j := none) rfl
theorem w10_5 {x : Int32} : Wp X m ((pc, ln, 10, a, 5, v, ts) :: c) l (.int x :: st) h Q = Wp X m c l (.int (x.toInt16.toInt32) :: st) h Q := Wp_go (j := none) rfl
theorem w11 {x y : Int64} : Wp X m ((pc, ln, 11, a, b, v, ts) :: c) l (.long y :: .long x :: st) h Q = Wp X m c l (.int (lg_cmp x y) :: st) h Q := Wp_go (j := none) rfl
theorem w_br {e : CE} {P : Prop} [Decidable P] {l' : Lo} {st' : List Value} (hs : stp X e l st h = br P a l' st' h) : Wp X m (e :: c) l st h Q = if P then Wp X m (J m a) l' st' h Q else Wp X m c l' st' h Q := by
  rw [Wp_go hs]
  by_cases hp : P
  · rw [if_pos hp, if_pos hp]; rfl
  · rw [if_neg hp, if_neg hp]; rfl
theorem w12_0 {x : Int32} : Wp X m ((pc, ln, 12, a, 0, v, ts) :: c) l (.int x :: st) h Q = if x = 0 then Wp X m (J m a) l st h Q else Wp X m c l st h Q := w_br rfl
theorem w12_1 {x : Int32} : Wp X m ((pc, ln, 12, a, 1, v, ts) :: c) l (.int x :: st) h Q = if x ≠ 0 then Wp X m (J m a) l st h Q else Wp X m c l st h Q := w_br rfl
theorem w12_2 {x : Int32} : Wp X m ((pc, ln, 12, a, 2, v, ts) :: c) l (.int x :: st) h Q = if x < 0 then Wp X m (J m a) l st h Q else Wp X m c l st h Q := w_br rfl
theorem w12_3 {x : Int32} : Wp X m ((pc, ln, 12, a, 3, v, ts) :: c) l (.int x :: st) h Q = if 0 ≤ x then Wp X m (J m a) l st h Q else Wp X m c l st h Q := w_br rfl
theorem w12_4 {x : Int32} : Wp X m ((pc, ln, 12, a, 4, v, ts) :: c) l (.int x :: st) h Q = if 0 < x then Wp X m (J m a) l st h Q else Wp X m c l st h Q := w_br rfl
theorem w12_5 {x : Int32} : Wp X m ((pc, ln, 12, a, 5, v, ts) :: c) l (.int x :: st) h Q = if x ≤ 0 then Wp X m (J m a) l st h Q else Wp X m c l st h Q := w_br rfl
theorem w13_0 {x y : Int32} : Wp X m ((pc, ln, 13, a, 0, v, ts) :: c) l (.int y :: .int x :: st) h Q = if x = y then Wp X m (J m a) l st h Q else Wp X m c l st h Q := w_br rfl
theorem w13_1 {x y : Int32} : Wp X m ((pc, ln, 13, a, 1, v, ts) :: c) l (.int y :: .int x :: st) h Q = if x ≠ y then Wp X m (J m a) l st h Q else Wp X m c l st h Q := w_br rfl
theorem w13_2 {x y : Int32} : Wp X m ((pc, ln, 13, a, 2, v, ts) :: c) l (.int y :: .int x :: st) h Q = if x < y then Wp X m (J m a) l st h Q else Wp X m c l st h Q := w_br rfl
theorem w13_3 {x y : Int32} : Wp X m ((pc, ln, 13, a, 3, v, ts) :: c) l (.int y :: .int x :: st) h Q = if y ≤ x then Wp X m (J m a) l st h Q else Wp X m c l st h Q := w_br rfl
theorem w13_4 {x y : Int32} : Wp X m ((pc, ln, 13, a, 4, v, ts) :: c) l (.int y :: .int x :: st) h Q = if y < x then Wp X m (J m a) l st h Q else Wp X m c l st h Q := w_br rfl
theorem w13_5 {x y : Int32} : Wp X m ((pc, ln, 13, a, 5, v, ts) :: c) l (.int y :: .int x :: st) h Q = if x ≤ y then Wp X m (J m a) l st h Q else Wp X m c l st h Q := w_br rfl
theorem w14 : Wp X m ((pc, ln, 14, a, b, v, ts) :: c) l st h Q = Wp X m (J m a) l st h Q := Wp_go (j := some a) rfl
theorem w15i {x : Int32} : Wp X m ((pc, ln, 15, a, b, v, ts) :: c) l (.int x :: st) h Q = Wp X m c l (.int x :: .int x :: st) h Q := Wp_go (j := none) rfl
theorem w15r {x : Nat} : Wp X m ((pc, ln, 15, a, b, v, ts) :: c) l (.ref x :: st) h Q = Wp X m c l (.ref x :: .ref x :: st) h Q := Wp_go (j := none) rfl
theorem w16 {x : Int32} : Wp X m ((pc, ln, 16, a, b, v, ts) :: c) l (.int x :: st) h Q = Wp X m c l st h Q := Wp_go (j := none) rfl
theorem w17 {x : Int32} {y : Nat} : Wp X m ((pc, ln, 17, a, b, v, ts) :: c) l (.int x :: .ref y :: st) h Q = Wp X m c l (.int x :: .ref y :: .int x :: .ref y :: st) h Q := Wp_go (j := none) rfl
/-- what a cell gives, what it becomes -/
def fK (K : Value → Prop) : List Value → Nat → Prop
  | [], _ => False
  | v :: _, 0 => K v
  | _ :: fs, k + 1 => fK K fs k
theorem fK_0 (K : Value → Prop) (v : Value) (fs : List Value) : fK K (v :: fs) 0 = K v := rfl
theorem fK_s (K : Value → Prop) (v : Value) (fs : List Value) (k : Nat) : fK K (v :: fs) (k + 1) = fK K fs k := rfl
theorem fK_eq (K : Value → Prop) : ∀ (fs : List Value) (k : Nat), (match fs[k]? with | some v => K v | none => False) = fK K fs k := by
  intro fs
  induction fs with
  | nil => intro k; simp [fK]
  | cons v fs ih =>
    intro k
    cases k with
    | zero => simp [fK]
    | succ k => rw [fK_s, ← ih k, List.getElem?_cons_succ]
def gfc (C : AC) (ci k : Nat) (K : Value → Prop) : Prop := match C with
  | .inr (.inr (.inr (.inr (c, fs)))) => if c = ci then fK K fs k else False
  | _ => False
theorem gfc_O {ci k : Nat} {fs : List Value} {K : Value → Prop} : gfc (aO ci fs) ci k K = fK K fs k := by simp [gfc]
theorem w18 {q : Nat} : Wp X m ((pc, ln, 18, a, b, v, ts) :: c) l (.ref q :: st) h Q = gfc (h q) a b (fun v => Wp X m c l (v :: st) h Q) := by
  have e : stp X (pc, ln, 18, a, b, v, ts) l (.ref q :: st) h = (match gf h q a b with | some v => nx l (v :: st) h | none => none) := rfl
  unfold gfc
  unfold gf at e
  generalize h q = CC at e ⊢
  rcases CC with ⟨n, f⟩ | ⟨n, f⟩ | ⟨n, f⟩ | ⟨n, f⟩ | ⟨cc, fs⟩ <;> try exact Wp_no e
  dsimp only at e ⊢
  by_cases hc : cc = a
  · rw [if_pos hc] at e ⊢
    rw [← fK_eq]
    cases hf : fs[b]? with
    | none => rw [hf] at e; exact Wp_no e
    | some w => rw [hf] at e; exact Wp_go (j := none) e
  · rw [if_neg hc] at e ⊢
    exact Wp_no e
/-- the fields with one in another's place -/
def fS (w : Value) : List Value → Nat → List Value
  | [], _ => []
  | _ :: fs, 0 => w :: fs
  | v :: fs, k + 1 => v :: fS w fs k
theorem fS_0 (w v : Value) (fs : List Value) : fS w (v :: fs) 0 = w :: fs := rfl
theorem fS_s (w v : Value) (fs : List Value) (k : Nat) : fS w (v :: fs) (k + 1) = v :: fS w fs k := rfl
theorem fS_eq (w : Value) : ∀ (fs : List Value) (k : Nat), fs.set k w = fS w fs k := by
  intro fs
  induction fs with
  | nil => intro k; rfl
  | cons v fs ih =>
    intro k
    cases k with
    | zero => rfl
    | succ k => rw [fS_s, ← ih k, List.set_cons_succ]
def pfc (C : AC) (ci k : Nat) (w : Value) (K : AC → Prop) : Prop := match C with
  | .inr (.inr (.inr (.inr (c, fs)))) => if c = ci ∧ k < fs.length then K (aO ci (fS w fs k)) else False
  | _ => False
theorem pfc_O {ci k : Nat} {fs : List Value} {w : Value} {K : AC → Prop} (hk : k < fs.length) : pfc (aO ci fs) ci k w K = K (aO ci (fS w fs k)) := by simp [pfc, hk]
theorem w19_aux {e : CE} {q ci k : Nat} {w : Value} (he : stp X e l (w :: .ref q :: st) h = (match pf h q ci k w with | some h' => nx l st h' | none => none)) : Wp X m (e :: c) l (w :: .ref q :: st) h Q = pfc (h q) ci k w (fun C => Wp X m c l st (uH h q C) Q) := by
  unfold pfc
  unfold pf at he
  generalize h q = CC at he ⊢
  rcases CC with ⟨n, f⟩ | ⟨n, f⟩ | ⟨n, f⟩ | ⟨n, f⟩ | ⟨cc, fs⟩ <;> try exact Wp_no he
  dsimp only at he ⊢
  by_cases hc : cc = ci ∧ k < fs.length
  · rw [if_pos hc] at he ⊢
    rw [← fS_eq]
    exact Wp_go (j := none) he
  · rw [if_neg hc] at he ⊢
    exact Wp_no he
theorem w19i {q : Nat} {x : Int32} : Wp X m ((pc, ln, 19, a, b, .int 0, ts) :: c) l (.int x :: .ref q :: st) h Q = pfc (h q) a b (.int x) (fun C => Wp X m c l st (uH h q C) Q) := by
  apply w19_aux
  show s19 a b (.int 0) l (.int x :: .ref q :: st) h = _
  simp only [s19, true_or, if_true]
  rfl
theorem w19z {q : Nat} {x : Int32} : Wp X m ((pc, ln, 19, a, b, .int 1, ts) :: c) l (.int x :: .ref q :: st) h Q = if x &&& 1 = x then pfc (h q) a b (.int x) (fun C => Wp X m c l st (uH h q C) Q) else False := by
  by_cases hx : x &&& 1 = x
  · rw [if_pos hx]
    apply w19_aux
    show s19 a b (.int 1) l (.int x :: .ref q :: st) h = _
    simp only [s19, hx, or_true, if_true]
    rfl
  · rw [if_neg hx]
    apply Wp_no
    show s19 a b (.int 1) l (.int x :: .ref q :: st) h = _
    have h1 : ¬ ((1 : Int32) = 0 ∨ x &&& 1 = x) := by
      rintro (h1 | h1)
      · exact absurd h1 (by decide)
      · exact hx h1
    simp only [s19, if_neg h1]
theorem w19l {q : Nat} {x y : Int64} : Wp X m ((pc, ln, 19, a, b, .long y, ts) :: c) l (.long x :: .ref q :: st) h Q = pfc (h q) a b (.long x) (fun C => Wp X m c l st (uH h q C) Q) := w19_aux rfl
def rIc (X : SX) (C : AC) (a : Nat) (i : Int32) (K : Int32 → Prop) : Prop := match C with
  | .inl (n, f) => if i < 0 ∨ n ≤ i.toNatClampNeg then False else K (f i.toNatClampNeg)
  | _ => match X with
    | some (n, f) => if a = 61 then if i < 0 ∨ n ≤ i.toNatClampNeg then False else K (f i.toNatClampNeg) else False
    | none => False
theorem rIc_in {n : Nat} {f : Nat → Int32} {i : Int32} {K : Int32 → Prop} (hi : vp_in i n) : rIc X (aI n f) a i K = K (f i.toNatClampNeg) := by
  unfold rIc; exact if_neg hi
theorem rIc_n {n j : Nat} {f : Nat → Int32} {K : Int32 → Prop} (hj : j < n) (hn : n < 2 ^ 31) : rIc X (aI n f) a (nI j) K = K (f j) := by
  rw [rIc_in (vp_in_nI hj hn), nI_clamp (by omega)]
theorem w20 {q : Nat} {i : Int32} : Wp X m ((pc, ln, 20, a, b, v, ts) :: c) l (.int i :: .ref q :: st) h Q = rIc X (h q) q i (fun x => Wp X m c l (.int x :: st) h Q) := by
  have e : stp X (pc, ln, 20, a, b, v, ts) l (.int i :: .ref q :: st) h = (match rI X h q i with | some x => nx l (.int x :: st) h | none => none) := rfl
  unfold rIc
  unfold rI at e
  generalize h q = CC at e ⊢
  rcases CC with ⟨n, f⟩ | C
  · dsimp only at e ⊢
    by_cases hi : i < 0 ∨ n ≤ i.toNatClampNeg
    · rw [if_pos hi] at e ⊢; exact Wp_no e
    · rw [if_neg hi] at e ⊢; exact Wp_go (j := none) e
  · dsimp only at e ⊢
    rcases X with _ | ⟨n, f⟩
    · exact Wp_no e
    · dsimp only at e ⊢
      by_cases hq : q = 61
      · rw [if_pos hq] at e ⊢
        by_cases hi : i < 0 ∨ n ≤ i.toNatClampNeg
        · rw [if_pos hi] at e ⊢; exact Wp_no e
        · rw [if_neg hi] at e ⊢; exact Wp_go (j := none) e
      · rw [if_neg hq] at e ⊢; exact Wp_no e
def rJc (C : AC) (i : Int32) (K : Int64 → Prop) : Prop := match C with
  | .inr (.inl (n, f)) => if i < 0 ∨ n ≤ i.toNatClampNeg then False else K (f i.toNatClampNeg)
  | _ => False
def rBc (C : AC) (i : Int32) (K : Int32 → Prop) : Prop := match C with
  | .inr (.inr (.inl (n, f))) => if i < 0 ∨ n ≤ i.toNatClampNeg then False else K (f i.toNatClampNeg)
  | _ => False
def rRc (C : AC) (i : Int32) (K : Nat → Prop) : Prop := match C with
  | .inr (.inr (.inr (.inl (n, f)))) => if i < 0 ∨ n ≤ i.toNatClampNeg then False else match f i.toNatClampNeg with
    | some x => K x
    | none => False
  | _ => False
def wIc (C : AC) (i x : Int32) (K : AC → Prop) : Prop := match C with
  | .inl (n, f) => if i < 0 ∨ n ≤ i.toNatClampNeg then False else K (aI n (upd f i.toNatClampNeg x))
  | _ => False
def wJc (C : AC) (i : Int32) (x : Int64) (K : AC → Prop) : Prop := match C with
  | .inr (.inl (n, f)) => if i < 0 ∨ n ≤ i.toNatClampNeg then False else K (aJ n (vp_updL f i.toNatClampNeg x))
  | _ => False
def wBc (C : AC) (i x : Int32) (K : AC → Prop) : Prop := match C with
  | .inr (.inr (.inl (n, f))) => if i < 0 ∨ n ≤ i.toNatClampNeg then False else K (aB n (upd f i.toNatClampNeg (vp_nar .byte x)))
  | _ => False
theorem rJc_in {n : Nat} {f : Nat → Int64} {i : Int32} {K : Int64 → Prop} (hi : vp_in i n) : rJc (aJ n f) i K = K (f i.toNatClampNeg) := by
  unfold rJc; exact if_neg hi
theorem rJc_n {n j : Nat} {f : Nat → Int64} {K : Int64 → Prop} (hj : j < n) (hn : n < 2 ^ 31) : rJc (aJ n f) (nI j) K = K (f j) := by
  rw [rJc_in (vp_in_nI hj hn), nI_clamp (by omega)]
theorem rBc_in {n : Nat} {f : Nat → Int32} {i : Int32} {K : Int32 → Prop} (hi : vp_in i n) : rBc (aB n f) i K = K (f i.toNatClampNeg) := by
  unfold rBc; exact if_neg hi
theorem rBc_n {n j : Nat} {f : Nat → Int32} {K : Int32 → Prop} (hj : j < n) (hn : n < 2 ^ 31) : rBc (aB n f) (nI j) K = K (f j) := by
  rw [rBc_in (vp_in_nI hj hn), nI_clamp (by omega)]
theorem rRc_n {n j : Nat} {f : Nat → Option Nat} {K : Nat → Prop} {y : Nat} (hj : j < n) (hn : n < 2 ^ 31) (hf : f j = some y) : rRc (aR n f) (nI j) K = K y := by
  unfold rRc
  have hi := vp_in_nI hj hn
  dsimp only
  rw [if_neg hi, nI_clamp (by omega), hf]
theorem wIc_in {n : Nat} {f : Nat → Int32} {i x : Int32} {K : AC → Prop} (hi : vp_in i n) : wIc (aI n f) i x K = K (aI n (upd f i.toNatClampNeg x)) := by
  unfold wIc; exact if_neg hi
theorem wIc_n {n j : Nat} {f : Nat → Int32} {x : Int32} {K : AC → Prop} (hj : j < n) (hn : n < 2 ^ 31) : wIc (aI n f) (nI j) x K = K (aI n (upd f j x)) := by
  rw [wIc_in (vp_in_nI hj hn), nI_clamp (by omega)]
theorem wJc_in {n : Nat} {f : Nat → Int64} {i : Int32} {x : Int64} {K : AC → Prop} (hi : vp_in i n) : wJc (aJ n f) i x K = K (aJ n (vp_updL f i.toNatClampNeg x)) := by
  unfold wJc; exact if_neg hi
theorem wJc_n {n j : Nat} {f : Nat → Int64} {x : Int64} {K : AC → Prop} (hj : j < n) (hn : n < 2 ^ 31) : wJc (aJ n f) (nI j) x K = K (aJ n (vp_updL f j x)) := by
  rw [wJc_in (vp_in_nI hj hn), nI_clamp (by omega)]
theorem wBc_in {n : Nat} {f : Nat → Int32} {i x : Int32} {K : AC → Prop} (hi : vp_in i n) : wBc (aB n f) i x K = K (aB n (upd f i.toNatClampNeg (vp_nar .byte x))) := by
  unfold wBc; exact if_neg hi
theorem wBc_n {n j : Nat} {f : Nat → Int32} {x : Int32} {K : AC → Prop} (hj : j < n) (hn : n < 2 ^ 31) : wBc (aB n f) (nI j) x K = K (aB n (upd f j (vp_nar .byte x))) := by
  rw [wBc_in (vp_in_nI hj hn), nI_clamp (by omega)]
theorem w21 {q : Nat} {i : Int32} : Wp X m ((pc, ln, 21, a, b, v, ts) :: c) l (.int i :: .ref q :: st) h Q = rJc (h q) i (fun x => Wp X m c l (.long x :: st) h Q) := by
  have e : stp X (pc, ln, 21, a, b, v, ts) l (.int i :: .ref q :: st) h = (match rJ h q i with | some x => nx l (.long x :: st) h | none => none) := rfl
  unfold rJc
  unfold rJ at e
  generalize h q = CC at e ⊢
  rcases CC with ⟨n, f⟩ | ⟨n, f⟩ | C
  · exact Wp_no e
  · dsimp only at e ⊢
    by_cases hi : i < 0 ∨ n ≤ i.toNatClampNeg
    · rw [if_pos hi] at e ⊢; exact Wp_no e
    · rw [if_neg hi] at e ⊢; exact Wp_go (j := none) e
  · exact Wp_no e
theorem w22 {q : Nat} {i : Int32} : Wp X m ((pc, ln, 22, a, b, v, ts) :: c) l (.int i :: .ref q :: st) h Q = rBc (h q) i (fun x => Wp X m c l (.int x :: st) h Q) := by
  have e : stp X (pc, ln, 22, a, b, v, ts) l (.int i :: .ref q :: st) h = (match rB h q i with | some x => nx l (.int x :: st) h | none => none) := rfl
  unfold rBc
  unfold rB at e
  generalize h q = CC at e ⊢
  rcases CC with ⟨n, f⟩ | ⟨n, f⟩ | ⟨n, f⟩ | C
  · exact Wp_no e
  · exact Wp_no e
  · dsimp only at e ⊢
    by_cases hi : i < 0 ∨ n ≤ i.toNatClampNeg
    · rw [if_pos hi] at e ⊢; exact Wp_no e
    · rw [if_neg hi] at e ⊢; exact Wp_go (j := none) e
  · exact Wp_no e
theorem w23 {q : Nat} {i : Int32} : Wp X m ((pc, ln, 23, a, b, v, ts) :: c) l (.int i :: .ref q :: st) h Q = rRc (h q) i (fun x => Wp X m c l (.ref x :: st) h Q) := by
  have e : stp X (pc, ln, 23, a, b, v, ts) l (.int i :: .ref q :: st) h = (match rR h q i with | some x => nx l (.ref x :: st) h | none => none) := rfl
  unfold rRc
  unfold rR at e
  generalize h q = CC at e ⊢
  rcases CC with ⟨n, f⟩ | ⟨n, f⟩ | ⟨n, f⟩ | ⟨n, f⟩ | C
  · exact Wp_no e
  · exact Wp_no e
  · exact Wp_no e
  · dsimp only at e ⊢
    by_cases hi : i < 0 ∨ n ≤ i.toNatClampNeg
    · rw [if_pos hi] at e ⊢; exact Wp_no e
    · rw [if_neg hi] at e ⊢
      cases hf : f i.toNatClampNeg with
      | none => rw [hf] at e; exact Wp_no e
      | some y => rw [hf] at e; exact Wp_go (j := none) e
  · exact Wp_no e
theorem w24 {q : Nat} {i x : Int32} : Wp X m ((pc, ln, 24, a, b, v, ts) :: c) l (.int x :: .int i :: .ref q :: st) h Q = wIc (h q) i x (fun C => Wp X m c l st (uH h q C) Q) := by
  have e : stp X (pc, ln, 24, a, b, v, ts) l (.int x :: .int i :: .ref q :: st) h = (match wI h q i x with | some h' => nx l st h' | none => none) := rfl
  unfold wIc
  unfold wI at e
  generalize h q = CC at e ⊢
  rcases CC with ⟨n, f⟩ | C
  · dsimp only at e ⊢
    by_cases hi : i < 0 ∨ n ≤ i.toNatClampNeg
    · rw [if_pos hi] at e ⊢; exact Wp_no e
    · rw [if_neg hi] at e ⊢; exact Wp_go (j := none) e
  · exact Wp_no e
theorem w25 {q : Nat} {i : Int32} {x : Int64} : Wp X m ((pc, ln, 25, a, b, v, ts) :: c) l (.long x :: .int i :: .ref q :: st) h Q = wJc (h q) i x (fun C => Wp X m c l st (uH h q C) Q) := by
  have e : stp X (pc, ln, 25, a, b, v, ts) l (.long x :: .int i :: .ref q :: st) h = (match wJ h q i x with | some h' => nx l st h' | none => none) := rfl
  unfold wJc
  unfold wJ at e
  generalize h q = CC at e ⊢
  rcases CC with ⟨n, f⟩ | ⟨n, f⟩ | C
  · exact Wp_no e
  · dsimp only at e ⊢
    by_cases hi : i < 0 ∨ n ≤ i.toNatClampNeg
    · rw [if_pos hi] at e ⊢; exact Wp_no e
    · rw [if_neg hi] at e ⊢; exact Wp_go (j := none) e
  · exact Wp_no e
theorem w26 {q : Nat} {i x : Int32} : Wp X m ((pc, ln, 26, a, b, v, ts) :: c) l (.int x :: .int i :: .ref q :: st) h Q = wBc (h q) i x (fun C => Wp X m c l st (uH h q C) Q) := by
  have e : stp X (pc, ln, 26, a, b, v, ts) l (.int x :: .int i :: .ref q :: st) h = (match wB h q i x with | some h' => nx l st h' | none => none) := rfl
  unfold wBc
  unfold wB at e
  generalize h q = CC at e ⊢
  rcases CC with ⟨n, f⟩ | ⟨n, f⟩ | ⟨n, f⟩ | C
  · exact Wp_no e
  · exact Wp_no e
  · dsimp only at e ⊢
    by_cases hi : i < 0 ∨ n ≤ i.toNatClampNeg
    · rw [if_pos hi] at e ⊢; exact Wp_no e
    · rw [if_neg hi] at e ⊢; exact Wp_go (j := none) e
  · exact Wp_no e
def lnc (X : SX) (C : AC) (a : Nat) (K : Nat → Prop) : Prop := match C with
  | .inl (n, _) => K n
  | _ => match X with
    | some (n, _) => if a = 61 then K n else False
    | none => False
theorem lnc_I {n : Nat} {f : Nat → Int32} {K : Nat → Prop} : lnc X (aI n f) a K = K n := rfl
theorem w27 {q : Nat} : Wp X m ((pc, ln, 27, a, b, v, ts) :: c) l (.ref q :: st) h Q = lnc X (h q) q (fun n => Wp X m c l (.int (Int32.ofNat n) :: st) h Q) := by
  have e : stp X (pc, ln, 27, a, b, v, ts) l (.ref q :: st) h = (match lnA X h q with | some n => nx l (.int (Int32.ofNat n) :: st) h | none => none) := rfl
  unfold lnc
  unfold lnA at e
  generalize h q = CC at e ⊢
  rcases CC with ⟨n, f⟩ | C
  · exact Wp_go (j := none) e
  · dsimp only at e ⊢
    rcases X with _ | ⟨n, f⟩
    · exact Wp_no e
    · dsimp only at e ⊢
      by_cases hq : q = 61
      · rw [if_pos hq] at e ⊢; exact Wp_go (j := none) e
      · rw [if_neg hq] at e ⊢; exact Wp_no e
theorem w28_aux {as st' : List Value} (hb : st = as.reverse ++ st') (hl : as.length = b) (h4 : st'.length ≤ 4) : Wp X m ((pc, ln, 28, a, b, v, ts) :: c) l st h Q = WpM a as h (fun r h' => Wp X m c l (r.toList ++ st') h' Q) := by
  apply Wp_call
  show s28 a b l st h = _
  unfold s28
  have h1 : st.length = b + st'.length := by rw [hb]; simp [hl]
  rw [if_pos (by omega)]
  have h2 : st.take b = as.reverse := by rw [hb, List.take_append_of_le_length (by simp [hl])]; rw [List.take_of_length_le (by simp [hl])]
  have h3 : st.drop b = st' := by rw [hb, List.drop_append_of_le_length (by simp [hl])]; rw [List.drop_of_length_le (by simp [hl])]; rfl
  rw [h2, h3, List.reverse_reverse]
theorem w28_1 {a0 : Value} (h4 : st.length ≤ 4) : Wp X m ((pc, ln, 28, a, 1, v, ts) :: c) l (a0 :: st) h Q = WpM a [a0] h (fun r h' => Wp X m c l (r.toList ++ st) h' Q) := w28_aux rfl rfl h4
theorem w28_2 {a0 a1 : Value} (h4 : st.length ≤ 4) : Wp X m ((pc, ln, 28, a, 2, v, ts) :: c) l (a1 :: a0 :: st) h Q = WpM a [a0, a1] h (fun r h' => Wp X m c l (r.toList ++ st) h' Q) := w28_aux rfl rfl h4
theorem w28_3 {a0 a1 a2 : Value} (h4 : st.length ≤ 4) : Wp X m ((pc, ln, 28, a, 3, v, ts) :: c) l (a2 :: a1 :: a0 :: st) h Q = WpM a [a0, a1, a2] h (fun r h' => Wp X m c l (r.toList ++ st) h' Q) := w28_aux rfl rfl h4
theorem w28_4 {a0 a1 a2 a3 : Value} (h4 : st.length ≤ 4) : Wp X m ((pc, ln, 28, a, 4, v, ts) :: c) l (a3 :: a2 :: a1 :: a0 :: st) h Q = WpM a [a0, a1, a2, a3] h (fun r h' => Wp X m c l (r.toList ++ st) h' Q) := w28_aux rfl rfl h4
theorem w28_5 {a0 a1 a2 a3 a4 : Value} (h4 : st.length ≤ 4) : Wp X m ((pc, ln, 28, a, 5, v, ts) :: c) l (a4 :: a3 :: a2 :: a1 :: a0 :: st) h Q = WpM a [a0, a1, a2, a3, a4] h (fun r h' => Wp X m c l (r.toList ++ st) h' Q) := w28_aux rfl rfl h4
theorem w28_6 {a0 a1 a2 a3 a4 a5 : Value} (h4 : st.length ≤ 4) : Wp X m ((pc, ln, 28, a, 6, v, ts) :: c) l (a5 :: a4 :: a3 :: a2 :: a1 :: a0 :: st) h Q = WpM a [a0, a1, a2, a3, a4, a5] h (fun r h' => Wp X m c l (r.toList ++ st) h' Q) := w28_aux rfl rfl h4
def isO (C : AC) (ci : Nat) (P : Prop) : Prop := match C with
  | .inr (.inr (.inr (.inr (c, _)))) => (c = ci ∧ ¬ c = 99) ∧ P
  | _ => False
theorem isO_O {ci : Nat} {fs : List Value} {P : Prop} (hc : ¬ ci = 99) : isO (aO ci fs) ci P = P := by
  unfold isO
  exact propext ⟨fun x => x.2, fun x => ⟨⟨rfl, hc⟩, x⟩⟩
theorem w37_aux {as st' : List Value} {q ci : Nat} {z : Int32} (hb : st = (Value.ref q :: as).reverse ++ st') (hl : as.length + 1 = b) (h4 : st'.length ≤ 4) : Wp X m ((pc, ln, 37, a, b, v, [(z, ci)]) :: c) l st h Q = isO (h q) ci (WpM a (.ref q :: as) h (fun r h' => Wp X m c l (r.toList ++ st') h' Q)) := by
  have h1 : st.length = b + st'.length := by rw [hb]; simp; omega
  have h2 : st.take b = (Value.ref q :: as).reverse := by rw [hb, List.take_append_of_le_length (by simp [hl])]; rw [List.take_of_length_le (by simp [hl])]
  have h3 : st.drop b = st' := by rw [hb, List.drop_append_of_le_length (by simp [hl])]; rw [List.drop_of_length_le (by simp [hl])]; rfl
  have e : stp X (pc, ln, 37, a, b, v, [(z, ci)]) l st h = s37 a b ci st h := rfl
  unfold s37 at e
  rw [if_pos (by omega), h2, h3, List.reverse_reverse] at e
  dsimp only at e
  unfold isO
  generalize hq : h q = CC at e ⊢
  rcases CC with ⟨n, f⟩ | ⟨n, f⟩ | ⟨n, f⟩ | ⟨n, f⟩ | ⟨cc, fs⟩ <;> try exact Wp_no e
  dsimp only at e ⊢
  by_cases hc : cc = ci ∧ ¬ cc = 99
  · rw [if_pos hc] at e
    rw [Wp_call e]
    exact propext ⟨fun x => ⟨hc, x⟩, fun x => x.2⟩
  · rw [if_neg hc] at e
    rw [Wp_no e]
    exact propext ⟨fun x => x.elim, fun x => hc x.1⟩
theorem w37_1 {q ci : Nat} {z : Int32} (h4 : st.length ≤ 4) : Wp X m ((pc, ln, 37, a, 1, v, [(z, ci)]) :: c) l (.ref q :: st) h Q = isO (h q) ci (WpM a [.ref q] h (fun r h' => Wp X m c l (r.toList ++ st) h' Q)) := w37_aux rfl rfl h4
theorem w37_2 {q ci : Nat} {z : Int32} {a1 : Value} (h4 : st.length ≤ 4) : Wp X m ((pc, ln, 37, a, 2, v, [(z, ci)]) :: c) l (a1 :: .ref q :: st) h Q = isO (h q) ci (WpM a [.ref q, a1] h (fun r h' => Wp X m c l (r.toList ++ st) h' Q)) := w37_aux rfl rfl h4
theorem w37_3 {q ci : Nat} {z : Int32} {a1 a2 : Value} (h4 : st.length ≤ 4) : Wp X m ((pc, ln, 37, a, 3, v, [(z, ci)]) :: c) l (a2 :: a1 :: .ref q :: st) h Q = isO (h q) ci (WpM a [.ref q, a1, a2] h (fun r h' => Wp X m c l (r.toList ++ st) h' Q)) := w37_aux rfl rfl h4
theorem w37_4 {q ci : Nat} {z : Int32} {a1 a2 a3 : Value} (h4 : st.length ≤ 4) : Wp X m ((pc, ln, 37, a, 4, v, [(z, ci)]) :: c) l (a3 :: a2 :: a1 :: .ref q :: st) h Q = isO (h q) ci (WpM a [.ref q, a1, a2, a3] h (fun r h' => Wp X m c l (r.toList ++ st) h' Q)) := w37_aux rfl rfl h4
theorem w37_5 {q ci : Nat} {z : Int32} {a1 a2 a3 a4 : Value} (h4 : st.length ≤ 4) : Wp X m ((pc, ln, 37, a, 5, v, [(z, ci)]) :: c) l (a4 :: a3 :: a2 :: a1 :: .ref q :: st) h Q = isO (h q) ci (WpM a [.ref q, a1, a2, a3, a4] h (fun r h' => Wp X m c l (r.toList ++ st) h' Q)) := w37_aux rfl rfl h4
theorem w37_6 {q ci : Nat} {z : Int32} {a1 a2 a3 a4 a5 : Value} (h4 : st.length ≤ 4) : Wp X m ((pc, ln, 37, a, 6, v, [(z, ci)]) :: c) l (a5 :: a4 :: a3 :: a2 :: a1 :: .ref q :: st) h Q = isO (h q) ci (WpM a [.ref q, a1, a2, a3, a4, a5] h (fun r h' => Wp X m c l (r.toList ++ st) h' Q)) := w37_aux rfl rfl h4
def cpc (C0 C1 : AC) (sp dp n : Int32) (K : AC → Prop) : Prop := match C0, C1 with
  | .inl (n0, f), .inl (n1, g) => if sp < 0 ∨ dp < 0 ∨ n < 0 ∨ ¬ sp.toNatClampNeg + n.toNatClampNeg ≤ n0 ∨ ¬ dp.toNatClampNeg + n.toNatClampNeg ≤ n1 then False else K (aI n1 (va_cpy f g sp.toNatClampNeg dp.toNatClampNeg n.toNatClampNeg))
  | .inr (.inl (n0, f)), .inr (.inl (n1, g)) => if sp < 0 ∨ dp < 0 ∨ n < 0 ∨ ¬ sp.toNatClampNeg + n.toNatClampNeg ≤ n0 ∨ ¬ dp.toNatClampNeg + n.toNatClampNeg ≤ n1 then False else K (aJ n1 (va_cpy f g sp.toNatClampNeg dp.toNatClampNeg n.toNatClampNeg))
  | _, _ => False
theorem w29 {q0 q : Nat} {sp dp n : Int32} : Wp X m ((pc, ln, 29, a, b, v, ts) :: c) l [.int n, .int dp, .ref q, .int sp, .ref q0] h Q = cpc (h q0) (h q) sp dp n (fun C => Wp X m c l [] (uH h q C) Q) := by
  have e : stp X (pc, ln, 29, a, b, v, ts) l [.int n, .int dp, .ref q, .int sp, .ref q0] h = (match cpA h q0 q sp dp n with | some h' => nx l [] h' | none => none) := rfl
  unfold cpc
  unfold cpA at e
  generalize h q0 = CC0 at e ⊢
  generalize h q = CC at e ⊢
  rcases CC0 with ⟨n0, f⟩ | ⟨n0, f⟩ | C0 <;> rcases CC with ⟨n1, g⟩ | ⟨n1, g⟩ | C1 <;> try exact Wp_no e
  all_goals
    dsimp only at e ⊢
    by_cases hi : sp < 0 ∨ dp < 0 ∨ n < 0 ∨ ¬ sp.toNatClampNeg + n.toNatClampNeg ≤ n0 ∨ ¬ dp.toNatClampNeg + n.toNatClampNeg ≤ n1
    · rw [if_pos hi] at e ⊢; exact Wp_no e
    · rw [if_neg hi] at e ⊢; exact Wp_go (j := none) e
theorem cpc_I {n0 n1 i j k : Nat} {f g : Nat → Int32} {K : AC → Prop} (h0 : i + k ≤ n0) (h1 : j + k ≤ n1) (hn0 : n0 < 2 ^ 31) (hn1 : n1 < 2 ^ 31) : cpc (aI n0 f) (aI n1 g) (nI i) (nI j) (nI k) K = K (aI n1 (va_cpy f g i j k)) := by
  unfold cpc
  dsimp only
  rw [nI_clamp (show i < 2 ^ 31 by omega), nI_clamp (show j < 2 ^ 31 by omega), nI_clamp (show k < 2 ^ 31 by omega)]
  have e1 := nI_pos (show i < 2 ^ 31 by omega)
  have e2 := nI_pos (show j < 2 ^ 31 by omega)
  have e3 := nI_pos (show k < 2 ^ 31 by omega)
  rw [if_neg]
  rintro (x | x | x | x | x)
  · exact e1 x
  · exact e2 x
  · exact e3 x
  · exact x h0
  · exact x h1
theorem cpc_J {n0 n1 i j k : Nat} {f g : Nat → Int64} {K : AC → Prop} (h0 : i + k ≤ n0) (h1 : j + k ≤ n1) (hn0 : n0 < 2 ^ 31) (hn1 : n1 < 2 ^ 31) : cpc (aJ n0 f) (aJ n1 g) (nI i) (nI j) (nI k) K = K (aJ n1 (va_cpy f g i j k)) := by
  unfold cpc
  dsimp only
  rw [nI_clamp (show i < 2 ^ 31 by omega), nI_clamp (show j < 2 ^ 31 by omega), nI_clamp (show k < 2 ^ 31 by omega)]
  have e1 := nI_pos (show i < 2 ^ 31 by omega)
  have e2 := nI_pos (show j < 2 ^ 31 by omega)
  have e3 := nI_pos (show k < 2 ^ 31 by omega)
  rw [if_neg]
  rintro (x | x | x | x | x)
  · exact e1 x
  · exact e2 x
  · exact e3 x
  · exact x h0
  · exact x h1
theorem w30i {x : Int32} : Wp X m ((pc, ln, 30, a, 0, v, ts) :: c) l [.int x] h Q = Q (some (.int x)) h := by
  apply Wp_ret
  show s30 0 [.int x] = _
  simp only [s30, true_or, if_true]
theorem w30z {x : Int32} : Wp X m ((pc, ln, 30, a, 1, v, ts) :: c) l [.int x] h Q = if x &&& 1 = x then Q (some (.int x)) h else False := by
  by_cases hx : x &&& 1 = x
  · rw [if_pos hx]
    apply Wp_ret
    show s30 1 [.int x] = _
    simp only [s30, hx, or_true, if_true]
  · rw [if_neg hx]
    apply Wp_no
    show s30 1 [.int x] = _
    have h1 : ¬ (1 = 0 ∨ x &&& 1 = x) := by
      rintro (h1 | h1)
      · exact absurd h1 (by decide)
      · exact hx h1
    simp only [s30, if_neg h1]
theorem w31 {x : Int64} : Wp X m ((pc, ln, 31, a, b, v, ts) :: c) l [.long x] h Q = Q (some (.long x)) h := Wp_ret rfl
theorem w32 : Wp X m ((pc, ln, 32, a, b, v, ts) :: c) l [] h Q = Q none h := Wp_ret rfl
theorem w33 {x : Int32} : Wp X m ((pc, ln, 33, a, b, v, ts) :: c) l (.int x :: st) h Q = Wp X m (J m (swT x a ts)) l st h Q := Wp_go (j := some (swT x a ts)) rfl
theorem w34 {x y : Int32} (h4 : st.length ≤ 4) : Wp X m ((pc, ln, 34, a, b, v, ts) :: c) l (.int y :: .int x :: st) h Q = Wp X m c l (.int (if y < x then y else x) :: st) h Q := by
  apply Wp_go (j := none)
  show s34 l (.int y :: .int x :: st) h = _
  simp only [s34, h4, if_true]
  rfl
theorem w35 {x y : Int32} (h4 : st.length ≤ 4) : Wp X m ((pc, ln, 35, a, b, v, ts) :: c) l (.int y :: .int x :: st) h Q = Wp X m c l (.int (if x < y then y else x) :: st) h Q := by
  apply Wp_go (j := none)
  show s35 l (.int y :: .int x :: st) h = _
  simp only [s35, h4, if_true]
  rfl
theorem w36 {x : Int64} (h4 : st.length ≤ 4) : Wp X m ((pc, ln, 36, a, b, v, ts) :: c) l (.long x :: st) h Q = Wp X m c l (.long (if 0 < x then x else -x) :: st) h Q := by
  apply Wp_go (j := none)
  show s36 l (.long x :: st) h = _
  simp only [s36, h4, if_true]
  rfl
end EQS
theorem uH_s (h : AH) (a : Nat) (c : AC) : uH h a c a = c := by simp [uH]
theorem uH_n (h : AH) {a q : Nat} (c : AC) (hq : ¬ q = a) : uH h a c q = h q := by simp [uH, hq]
theorem uH_u (h : AH) (a : Nat) (c c' : AC) : uH (uH h a c) a c' = uH h a c' := by
  funext q; by_cases hq : q = a <;> simp [uH, hq]
theorem uH_c (h : AH) {a b : Nat} (c c' : AC) (hab : a ≠ b) : uH (uH h a c) b c' = uH (uH h b c') a c := by
  funext q
  by_cases hq : q = a
  · by_cases hq2 : q = b
    · exact absurd (hq.symm.trans hq2) hab
    · simp [uH, hq]; intro h1; exact absurd h1 (fun h => hab h)
  · by_cases hq2 : q = b
    · simp [uH, hq, hq2]; intro hb; exact absurd hb.symm hab
    · simp [uH, hq, hq2]
theorem uH_id (h : AH) {a : Nat} {c : AC} (hc : h a = c) : uH h a c = h := by
  funext q; by_cases hq : q = a
  · simp [uH, hq, hc]
  · simp [uH, hq]
theorem b1_0 : ((0 : Int32) &&& 1 = 0) = True := by decide
theorem b1_1 : ((1 : Int32) &&& 1 = 1) = True := by decide
theorem tl_s (v : Value) (st : List Value) : (some v).toList ++ st = v :: st := rfl
theorem tl_n (st : List Value) : (none : Option Value).toList ++ st = st := rfl

/-! THE OWN ABSTRACT MACHINE: a step, a run, and what a run must come to (Wp), by equations. References are numbers of cells (0 .. 60); cell 61 is the law's script. -/
abbrev Lo : Type := List (Option Value)
abbrev AC : Type := (Nat × (Nat → Int32)) ⊕ (Nat × (Nat → Int64)) ⊕ (Nat × (Nat → Int32)) ⊕ (Nat × (Nat → Option Nat)) ⊕ (Nat × List Value)
abbrev AH : Type := Nat → AC
abbrev aI (n : Nat) (f : Nat → Int32) : AC := .inl (n, f)
abbrev aJ (n : Nat) (f : Nat → Int64) : AC := .inr (.inl (n, f))
abbrev aB (n : Nat) (f : Nat → Int32) : AC := .inr (.inr (.inl (n, f)))
abbrev aR (n : Nat) (f : Nat → Option Nat) : AC := .inr (.inr (.inr (.inl (n, f))))
abbrev aO (c : Nat) (fs : List Value) : AC := .inr (.inr (.inr (.inr (c, fs))))
abbrev SO : Type := (Option Nat × Lo × List Value × AH) ⊕ (Option Value) ⊕ (Nat × List Value × List Value)
abbrev SX : Type := Option (Nat × (Nat → Int32))
def uH (h : AH) (a : Nat) (c : AC) : AH := fun q => if q = a then c else h q
def nx (l : Lo) (st : List Value) (h : AH) : Option SO := some (.inl (none, l, st, h))
/-- a long that ends where another value comes is no more -/
def kl (l : Lo) : Nat → Lo
  | 0 => l
  | a + 1 => match l[a]? with
    | some (some (.long _)) => l.set a none
    | some (some (.double _)) => l.set a none
    | _ => l
def set1 (l : Lo) (a : Nat) (v : Value) : Lo := (kl l a).set a (some v)
def set2 (l : Lo) (a : Nat) (v : Value) : Lo := ((kl l a).set a (some v)).set (a + 1) none
def s1 (a b : Nat) (l : Lo) (st : List Value) (h : AH) : Option SO := match l[a]?, b with
  | some (some (.int x)), 0 => nx l (.int x :: st) h
  | some (some (.long x)), 1 => nx l (.long x :: st) h
  | some (some (.ref x)), 2 => nx l (.ref x :: st) h
  | _, _ => none
def s2 (a b : Nat) (l : Lo) (st : List Value) (h : AH) : Option SO := match st, b with
  | .int x :: st', 0 => nx (set1 l a (.int x)) st' h
  | .ref x :: st', 2 => nx (set1 l a (.ref x)) st' h
  | _, _ => none
def s3 (a : Nat) (l : Lo) (st : List Value) (h : AH) : Option SO := match st with
  | .long x :: st' => nx (set2 l a (.long x)) st' h
  | _ => none
def s4 (a : Nat) (v : Value) (l : Lo) (st : List Value) (h : AH) : Option SO := match l[a]?, v with
  | some (some (.int x)), .int d => nx (set1 l a (.int (x + d))) st h
  | _, _ => none
def s5 (b : Nat) (l : Lo) (st : List Value) (h : AH) : Option SO := match st, b with
  | .int y :: .int x :: st', 0 => nx l (.int (x + y) :: st') h
  | .int y :: .int x :: st', 1 => nx l (.int (x - y) :: st') h
  | .int y :: .int x :: st', 2 => nx l (.int (x * y) :: st') h
  | .int y :: .int x :: st', 3 => nx l (.int (x &&& y) :: st') h
  | .int y :: .int x :: st', 4 => nx l (.int (x ||| y) :: st') h
  | .int y :: .int x :: st', 5 => nx l (.int (x ^^^ y) :: st') h
  | .int y :: .int x :: st', 6 => nx l (.int (x <<< (y &&& 31)) :: st') h
  | .int y :: .int x :: st', 7 => nx l (.int (x >>> (y &&& 31)) :: st') h
  | .int y :: .int x :: st', 8 => nx l (.int ((x.toUInt32 >>> (y.toUInt32 &&& Int32.toUInt32 31)).toInt32) :: st') h
  | _, _ => none
def s6 (b : Nat) (l : Lo) (st : List Value) (h : AH) : Option SO := match st, b with
  | .int y :: .int x :: st', 0 => if y = 0 then none else nx l (.int (x / y) :: st') h
  | .int y :: .int x :: st', 1 => if y = 0 then none else nx l (.int (x - x / y * y) :: st') h
  | _, _ => none
def s7 (b : Nat) (l : Lo) (st : List Value) (h : AH) : Option SO := match st, b with
  | .long y :: .long x :: st', 0 => nx l (.long (x + y) :: st') h
  | .long y :: .long x :: st', 1 => nx l (.long (x - y) :: st') h
  | .long y :: .long x :: st', 2 => nx l (.long (x * y) :: st') h
  | .long y :: .long x :: st', 3 => nx l (.long (x &&& y) :: st') h
  | .long y :: .long x :: st', 4 => nx l (.long (x ||| y) :: st') h
  | .long y :: .long x :: st', 5 => nx l (.long (x ^^^ y) :: st') h
  | _, _ => none
def s8 (b : Nat) (l : Lo) (st : List Value) (h : AH) : Option SO := match st, b with
  | .long y :: .long x :: st', 0 => if y = 0 then none else nx l (.long (x / y) :: st') h
  | .long y :: .long x :: st', 1 => if y = 0 then none else nx l (.long (x - x / y * y) :: st') h
  | _, _ => none
def s9 (b : Nat) (l : Lo) (st : List Value) (h : AH) : Option SO := match st, b with
  | .int y :: .long x :: st', 0 => nx l (.long (x <<< (y.toInt64 &&& 63)) :: st') h
  | .int y :: .long x :: st', 1 => nx l (.long (x >>> (y.toInt64 &&& 63)) :: st') h
  | .int y :: .long x :: st', 2 => nx l (.long ((x.toUInt64 >>> (y.toInt64.toUInt64 &&& Int64.toUInt64 63)).toInt64) :: st') h
  | _, _ => none
def s10 (b : Nat) (l : Lo) (st : List Value) (h : AH) : Option SO := match st, b with
  | .int x :: st', 0 => nx l (.int (-x) :: st') h
  | .long x :: st', 1 => nx l (.long (-x) :: st') h
  | .int x :: st', 2 => nx l (.long x.toInt64 :: st') h
  | .long x :: st', 3 => nx l (.int x.toInt32 :: st') h
  | .int x :: st', 4 => nx l (.int x.toInt8.toInt32 :: st') h
  | .int x :: st', 5 => nx l (.int x.toInt16.toInt32 :: st') h
  | _, _ => none
def s11 (l : Lo) (st : List Value) (h : AH) : Option SO := match st with
  | .long y :: .long x :: st' => nx l (.int (lg_cmp x y) :: st') h
  | _ => none
def br (c : Prop) [Decidable c] (a : Nat) (l : Lo) (st : List Value) (h : AH) : Option SO := some (.inl (if c then some a else none, l, st, h))
def s12 (a b : Nat) (l : Lo) (st : List Value) (h : AH) : Option SO := match st, b with
  | .int x :: st', 0 => br (x = 0) a l st' h
  | .int x :: st', 1 => br (x ≠ 0) a l st' h
  | .int x :: st', 2 => br (x < 0) a l st' h
  | .int x :: st', 3 => br (0 ≤ x) a l st' h
  | .int x :: st', 4 => br (0 < x) a l st' h
  | .int x :: st', 5 => br (x ≤ 0) a l st' h
  | _, _ => none
def s13 (a b : Nat) (l : Lo) (st : List Value) (h : AH) : Option SO := match st, b with
  | .int y :: .int x :: st', 0 => br (x = y) a l st' h
  | .int y :: .int x :: st', 1 => br (x ≠ y) a l st' h
  | .int y :: .int x :: st', 2 => br (x < y) a l st' h
  | .int y :: .int x :: st', 3 => br (y ≤ x) a l st' h
  | .int y :: .int x :: st', 4 => br (y < x) a l st' h
  | .int y :: .int x :: st', 5 => br (x ≤ y) a l st' h
  | _, _ => none
def s15 (l : Lo) (st : List Value) (h : AH) : Option SO := match st with
  | .int x :: st' => nx l (.int x :: .int x :: st') h
  | .ref x :: st' => nx l (.ref x :: .ref x :: st') h
  | _ => none
def s16 (l : Lo) (st : List Value) (h : AH) : Option SO := match st with
  | .int _ :: st' => nx l st' h
  | _ => none
def s17 (l : Lo) (st : List Value) (h : AH) : Option SO := match st with
  | .int x :: .ref y :: st' => nx l (.int x :: .ref y :: .int x :: .ref y :: st') h
  | _ => none
/-- a field of a cell that is an object of a class -/
def gf (h : AH) (a ci k : Nat) : Option Value := match h a with
  | .inr (.inr (.inr (.inr (c, fs)))) => if c = ci then fs[k]? else none
  | _ => none
def s18 (ci k : Nat) (l : Lo) (st : List Value) (h : AH) : Option SO := match st with
  | .ref a :: st' => match gf h a ci k with
    | some v => nx l (v :: st') h
    | none => none
  | _ => none
/-- a cell with another value in a field -/
def pf (h : AH) (a ci k : Nat) (w : Value) : Option AH := match h a with
  | .inr (.inr (.inr (.inr (c, fs)))) => if c = ci ∧ k < fs.length then some (uH h a (aO ci (fs.set k w))) else none
  | _ => none
def s19 (ci k : Nat) (v : Value) (l : Lo) (st : List Value) (h : AH) : Option SO := match st, v with
  | .int x :: .ref a :: st', .int f => if f = 0 ∨ x &&& 1 = x then match pf h a ci k (.int x) with
      | some h' => nx l st' h'
      | none => none
    else none
  | .long x :: .ref a :: st', .long _ => match pf h a ci k (.long x) with
      | some h' => nx l st' h'
      | none => none
  | _, _ => none
def oob (i : Int32) (n : Nat) : Prop := i < 0 ∨ n ≤ i.toNatClampNeg
/-- an int of a row of ints (or of the script) -/
def rI (X : SX) (h : AH) (a : Nat) (i : Int32) : Option Int32 := match h a with
  | .inl (n, f) => if i < 0 ∨ n ≤ i.toNatClampNeg then none else some (f i.toNatClampNeg)
  | _ => match X with
    | some (n, f) => if a = 61 then if i < 0 ∨ n ≤ i.toNatClampNeg then none else some (f i.toNatClampNeg) else none
    | none => none
def rJ (h : AH) (a : Nat) (i : Int32) : Option Int64 := match h a with
  | .inr (.inl (n, f)) => if i < 0 ∨ n ≤ i.toNatClampNeg then none else some (f i.toNatClampNeg)
  | _ => none
def rB (h : AH) (a : Nat) (i : Int32) : Option Int32 := match h a with
  | .inr (.inr (.inl (n, f))) => if i < 0 ∨ n ≤ i.toNatClampNeg then none else some (f i.toNatClampNeg)
  | _ => none
def rR (h : AH) (a : Nat) (i : Int32) : Option Nat := match h a with
  | .inr (.inr (.inr (.inl (n, f)))) => if i < 0 ∨ n ≤ i.toNatClampNeg then none else f i.toNatClampNeg
  | _ => none
def wI (h : AH) (a : Nat) (i x : Int32) : Option AH := match h a with
  | .inl (n, f) => if i < 0 ∨ n ≤ i.toNatClampNeg then none else some (uH h a (aI n (upd f i.toNatClampNeg x)))
  | _ => none
def wJ (h : AH) (a : Nat) (i : Int32) (x : Int64) : Option AH := match h a with
  | .inr (.inl (n, f)) => if i < 0 ∨ n ≤ i.toNatClampNeg then none else some (uH h a (aJ n (vp_updL f i.toNatClampNeg x)))
  | _ => none
def wB (h : AH) (a : Nat) (i x : Int32) : Option AH := match h a with
  | .inr (.inr (.inl (n, f))) => if i < 0 ∨ n ≤ i.toNatClampNeg then none else some (uH h a (aB n (upd f i.toNatClampNeg (vp_nar .byte x))))
  | _ => none
def s20 (X : SX) (l : Lo) (st : List Value) (h : AH) : Option SO := match st with
  | .int i :: .ref a :: st' => match rI X h a i with
    | some x => nx l (.int x :: st') h
    | none => none
  | _ => none
def s21 (l : Lo) (st : List Value) (h : AH) : Option SO := match st with
  | .int i :: .ref a :: st' => match rJ h a i with
    | some x => nx l (.long x :: st') h
    | none => none
  | _ => none
def s22 (l : Lo) (st : List Value) (h : AH) : Option SO := match st with
  | .int i :: .ref a :: st' => match rB h a i with
    | some x => nx l (.int x :: st') h
    | none => none
  | _ => none
def s23 (l : Lo) (st : List Value) (h : AH) : Option SO := match st with
  | .int i :: .ref a :: st' => match rR h a i with
    | some x => nx l (.ref x :: st') h
    | none => none
  | _ => none
def s24 (l : Lo) (st : List Value) (h : AH) : Option SO := match st with
  | .int x :: .int i :: .ref a :: st' => match wI h a i x with
    | some h' => nx l st' h'
    | none => none
  | _ => none
def s25 (l : Lo) (st : List Value) (h : AH) : Option SO := match st with
  | .long x :: .int i :: .ref a :: st' => match wJ h a i x with
    | some h' => nx l st' h'
    | none => none
  | _ => none
def s26 (l : Lo) (st : List Value) (h : AH) : Option SO := match st with
  | .int x :: .int i :: .ref a :: st' => match wB h a i x with
    | some h' => nx l st' h'
    | none => none
  | _ => none
def lnA (X : SX) (h : AH) (a : Nat) : Option Nat := match h a with
  | .inl (n, _) => some n
  | _ => match X with
    | some (n, _) => if a = 61 then some n else none
    | none => none
def s27 (X : SX) (l : Lo) (st : List Value) (h : AH) : Option SO := match st with
  | .ref a :: st' => match lnA X h a with
    | some n => nx l (.int (Int32.ofNat n) :: st') h
    | none => none
  | _ => none
def s28 (k b : Nat) (l : Lo) (st : List Value) (h : AH) : Option SO := if b ≤ st.length ∧ st.length ≤ b + 4 then some (.inr (.inr (k, (st.take b).reverse, st.drop b))) else none
/-- a call of a method of an object: the object is of the class -/
def s37 (k b ci : Nat) (st : List Value) (h : AH) : Option SO := if b ≤ st.length ∧ st.length ≤ b + 4 then (match (st.take b).reverse with
  | .ref q :: as => (match h q with
    | .inr (.inr (.inr (.inr (c, _)))) => if c = ci ∧ ¬ c = 99 then some (.inr (.inr (k, .ref q :: as, st.drop b))) else none
    | _ => none)
  | _ => none) else none
/-- System.arraycopy: of ints, of longs -/
def cpA (h : AH) (a0 a : Nat) (sp dp n : Int32) : Option AH := match h a0, h a with
  | .inl (n0, f), .inl (n1, g) => if sp < 0 ∨ dp < 0 ∨ n < 0 ∨ ¬ sp.toNatClampNeg + n.toNatClampNeg ≤ n0 ∨ ¬ dp.toNatClampNeg + n.toNatClampNeg ≤ n1 then none else some (uH h a (aI n1 (va_cpy f g sp.toNatClampNeg dp.toNatClampNeg n.toNatClampNeg)))
  | .inr (.inl (n0, f)), .inr (.inl (n1, g)) => if sp < 0 ∨ dp < 0 ∨ n < 0 ∨ ¬ sp.toNatClampNeg + n.toNatClampNeg ≤ n0 ∨ ¬ dp.toNatClampNeg + n.toNatClampNeg ≤ n1 then none else some (uH h a (aJ n1 (va_cpy f g sp.toNatClampNeg dp.toNatClampNeg n.toNatClampNeg)))
  | _, _ => none
def s29 (l : Lo) (st : List Value) (h : AH) : Option SO := match st with
  | [.int n, .int dp, .ref a, .int sp, .ref a0] => match cpA h a0 a sp dp n with
    | some h' => nx l [] h'
    | none => none
  | _ => none
def s30 (b : Nat) (st : List Value) : Option SO := match st with
  | [.int x] => if b = 0 ∨ x &&& 1 = x then some (.inr (.inl (some (.int x)))) else none
  | _ => none
def s31 (st : List Value) : Option SO := match st with
  | [.long x] => some (.inr (.inl (some (.long x))))
  | _ => none
def s32 (st : List Value) : Option SO := match st with
  | [] => some (.inr (.inl none))
  | _ => none
def swT (x : Int32) (d : Nat) : List (Int32 × Nat) → Nat
  | [] => d
  | (k, t) :: ts => if x = k then t else swT x d ts
def s33 (a : Nat) (ts : List (Int32 × Nat)) (l : Lo) (st : List Value) (h : AH) : Option SO := match st with
  | .int x :: st' => some (.inl (some (swT x a ts), l, st', h))
  | _ => none
def s34 (l : Lo) (st : List Value) (h : AH) : Option SO := match st with
  | .int y :: .int x :: st' => if st'.length ≤ 4 then nx l (.int (if y < x then y else x) :: st') h else none
  | _ => none
def s35 (l : Lo) (st : List Value) (h : AH) : Option SO := match st with
  | .int y :: .int x :: st' => if st'.length ≤ 4 then nx l (.int (if x < y then y else x) :: st') h else none
  | _ => none
def s36 (l : Lo) (st : List Value) (h : AH) : Option SO := match st with
  | .long x :: st' => if st'.length ≤ 4 then nx l (.long (if 0 < x then x else -x) :: st') h else none
  | _ => none
def stp (X : SX) (e : CE) (l : Lo) (st : List Value) (h : AH) : Option SO := match e with
  | (_, _, 0, _, _, v, _) => nx l (v :: st) h
  | (_, _, 1, a, b, _, _) => s1 a b l st h
  | (_, _, 2, a, b, _, _) => s2 a b l st h
  | (_, _, 3, a, _, _, _) => s3 a l st h
  | (_, _, 4, a, _, v, _) => s4 a v l st h
  | (_, _, 5, _, b, _, _) => s5 b l st h
  | (_, _, 6, _, b, _, _) => s6 b l st h
  | (_, _, 7, _, b, _, _) => s7 b l st h
  | (_, _, 8, _, b, _, _) => s8 b l st h
  | (_, _, 9, _, b, _, _) => s9 b l st h
  | (_, _, 10, _, b, _, _) => s10 b l st h
  | (_, _, 11, _, _, _, _) => s11 l st h
  | (_, _, 12, a, b, _, _) => s12 a b l st h
  | (_, _, 13, a, b, _, _) => s13 a b l st h
  | (_, _, 14, a, _, _, _) => some (.inl (some a, l, st, h))
  | (_, _, 15, _, _, _, _) => s15 l st h
  | (_, _, 16, _, _, _, _) => s16 l st h
  | (_, _, 17, _, _, _, _) => s17 l st h
  | (_, _, 18, a, b, _, _) => s18 a b l st h
  | (_, _, 19, a, b, v, _) => s19 a b v l st h
  | (_, _, 20, _, _, _, _) => s20 X l st h
  | (_, _, 21, _, _, _, _) => s21 l st h
  | (_, _, 22, _, _, _, _) => s22 l st h
  | (_, _, 23, _, _, _, _) => s23 l st h
  | (_, _, 24, _, _, _, _) => s24 l st h
  | (_, _, 25, _, _, _, _) => s25 l st h
  | (_, _, 26, _, _, _, _) => s26 l st h
  | (_, _, 27, _, _, _, _) => s27 X l st h
  | (_, _, 28, a, b, _, _) => s28 a b l st h
  | (_, _, 29, _, _, _, _) => s29 l st h
  | (_, _, 30, _, b, _, _) => s30 b st
  | (_, _, 31, _, _, _, _) => s31 st
  | (_, _, 32, _, _, _, _) => s32 st
  | (_, _, 33, a, _, _, ts) => s33 a ts l st h
  | (_, _, 34, _, _, _, _) => s34 l st h
  | (_, _, 35, _, _, _, _) => s35 l st h
  | (_, _, 36, _, _, _, _) => s36 l st h
  | (_, _, 37, a, b, _, [(_, ci)]) => s37 a b ci st h
  | _ => none
def jmp (m : Nat) (j : Option Nat) (c : List CE) : List CE := match j with
  | none => c
  | some t => J m t
/-- the locals at a method's entry -/
def ent (k : Nat) (as : List Value) : Lo := (List.range (mxL k)).map (fun i => (lv_args 0 as).lookup i)
def run : Nat → SX → Nat → List CE → Lo → List Value → AH → Option (Option Value × AH)
  | 0, _, _, _, _, _, _ => none
  | _ + 1, _, _, [], _, _, _ => none
  | n + 1, X, m, e :: c, l, st, h => match stp X e l st h with
    | none => none
    | some (.inl (j, l', st', h')) => run n X m (jmp m j c) l' st' h'
    | some (.inr (.inl v)) => some (v, h)
    | some (.inr (.inr (k, as, st'))) => match (if (lg_sl as).length ≤ mxL k then run n none k (J k 0) (ent k as) [] h else none) with
      | none => none
      | some (v, h') => run n X m c l (v.toList ++ st') h'
theorem run_mono : ∀ (n : Nat) (X : SX) (m : Nat) (c : List CE) (l : Lo) (st : List Value) (h : AH) (r : Option Value × AH), run n X m c l st h = some r → run (n + 1) X m c l st h = some r := by
  intro n
  induction n with
  | zero => intro X m c l st h r hr; simp [run] at hr
  | succ n ih =>
    intro X m c l st h r hr
    cases c with
    | nil => simp [run] at hr
    | cons e c =>
      rw [run] at hr ⊢
      cases hs : stp X e l st h with
      | none => rw [hs] at hr; simp at hr
      | some o =>
        rw [hs] at hr
        rcases o with ⟨j, l', st', h'⟩ | v | ⟨k, as, st'⟩
        · exact ih _ _ _ _ _ _ _ hr
        · exact hr
        · dsimp only at hr ⊢
          by_cases hg : (lg_sl as).length ≤ mxL k
          · rw [if_pos hg] at hr ⊢
            cases hc : run n none k (J k 0) (ent k as) [] h with
            | none => rw [hc] at hr; simp at hr
            | some r1 =>
              rw [hc] at hr
              rw [ih _ _ _ _ _ _ _ hc]
              exact ih _ _ _ _ _ _ _ hr
          · rw [if_neg hg] at hr; simp at hr
theorem run_le {n n' : Nat} (hn : n ≤ n') {X : SX} {m : Nat} {c : List CE} {l : Lo} {st : List Value} {h : AH} {r : Option Value × AH} (hr : run n X m c l st h = some r) : run n' X m c l st h = some r := by
  induction hn with
  | refl => exact hr
  | step _ ih => exact run_mono _ _ _ _ _ _ _ _ ih
def Wp (X : SX) (m : Nat) (c : List CE) (l : Lo) (st : List Value) (h : AH) (Q : Option Value → AH → Prop) : Prop := ∃ (n : Nat) (r : Option Value × AH), run n X m c l st h = some r ∧ Q r.1 r.2
def WpM (k : Nat) (as : List Value) (h : AH) (Q : Option Value → AH → Prop) : Prop := (lg_sl as).length ≤ mxL k ∧ Wp none k (J k 0) (ent k as) [] h Q
theorem WpM_e {k : Nat} {as : List Value} {h : AH} {Q : Option Value → AH → Prop} (hg : (lg_sl as).length ≤ mxL k) : WpM k as h Q = Wp none k (J k 0) (ent k as) [] h Q := by
  unfold WpM
  exact propext ⟨fun x => x.2, fun x => ⟨hg, x⟩⟩
theorem Wp_go {X : SX} {m : Nat} {e : CE} {c : List CE} {l l' : Lo} {st st' : List Value} {h h' : AH} {j : Option Nat} {Q : Option Value → AH → Prop} (hs : stp X e l st h = some (.inl (j, l', st', h'))) : Wp X m (e :: c) l st h Q = Wp X m (jmp m j c) l' st' h' Q := by
  apply propext
  constructor
  · rintro ⟨n, r, hr, hq⟩
    cases n with
    | zero => simp [run] at hr
    | succ n => rw [run, hs] at hr; exact ⟨n, r, hr, hq⟩
  · rintro ⟨n, r, hr, hq⟩
    exact ⟨n + 1, r, by rw [run, hs]; exact hr, hq⟩
theorem Wp_ret {X : SX} {m : Nat} {e : CE} {c : List CE} {l : Lo} {st : List Value} {h : AH} {v : Option Value} {Q : Option Value → AH → Prop} (hs : stp X e l st h = some (.inr (.inl v))) : Wp X m (e :: c) l st h Q = Q v h := by
  apply propext
  constructor
  · rintro ⟨n, r, hr, hq⟩
    cases n with
    | zero => simp [run] at hr
    | succ n => rw [run, hs] at hr; cases hr; exact hq
  · intro hq
    exact ⟨1, (v, h), by rw [run, hs], hq⟩
theorem Wp_no {X : SX} {m : Nat} {e : CE} {c : List CE} {l : Lo} {st : List Value} {h : AH} {Q : Option Value → AH → Prop} (hs : stp X e l st h = none) : Wp X m (e :: c) l st h Q = False := by
  apply propext
  constructor
  · rintro ⟨n, r, hr, hq⟩
    cases n with
    | zero => simp [run] at hr
    | succ n => rw [run, hs] at hr; simp at hr
  · intro hq; exact hq.elim
theorem Wp_call {X : SX} {m : Nat} {e : CE} {c : List CE} {l : Lo} {st st' as : List Value} {k : Nat} {h : AH} {Q : Option Value → AH → Prop} (hs : stp X e l st h = some (.inr (.inr (k, as, st')))) : Wp X m (e :: c) l st h Q = WpM k as h (fun v h' => Wp X m c l (v.toList ++ st') h' Q) := by
  apply propext
  constructor
  · rintro ⟨n, r, hr, hq⟩
    cases n with
    | zero => simp [run] at hr
    | succ n =>
      rw [run, hs] at hr
      dsimp only at hr
      by_cases hg : (lg_sl as).length ≤ mxL k
      · rw [if_pos hg] at hr
        cases hc : run n none k (J k 0) (ent k as) [] h with
        | none => rw [hc] at hr; simp at hr
        | some r1 =>
          rw [hc] at hr
          exact ⟨hg, n, r1, hc, n, r, hr, hq⟩
      · rw [if_neg hg] at hr; simp at hr
  · rintro ⟨hg, n, r1, hc, n2, r, hr, hq⟩
    refine ⟨max n n2 + 1, r, ?_, hq⟩
    rw [run, hs]
    dsimp only
    rw [if_pos hg, run_le (Nat.le_max_left n n2) hc]
    exact run_le (Nat.le_max_right n n2) hr
theorem Wp_mono {X : SX} {m : Nat} {c : List CE} {l : Lo} {st : List Value} {h : AH} {Q Q' : Option Value → AH → Prop} (hw : Wp X m c l st h Q) (hq : ∀ v h', Q v h' → Q' v h') : Wp X m c l st h Q' := by
  obtain ⟨n, r, hr, hh⟩ := hw
  exact ⟨n, r, hr, hq _ _ hh⟩

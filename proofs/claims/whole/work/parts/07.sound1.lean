/-! THE OWN ABSTRACT MACHINE IS SOUND: a run of it is a walk of the machine (W), a method's run is its contract (Met). -/
abbrev GA : Type := (Nat → Nat) × ClassId × ClassId × ClassId × ClassId
def cv (ad : Nat → Nat) (v : Value) : Value := match v with
  | .ref i => .ref (ad i)
  | w => w
theorem cv_cat (ad : Nat → Nat) (v : Value) : (cv ad v).category = v.category := by cases v <;> rfl
def cnc (G : GA) (C : AC) : va_E := match C with
  | .inl (n, f) => .inl (G.2.1, n, .inl f)
  | .inr (.inl (n, f)) => .inl (G.2.2.1, n, .inr (.inl f))
  | .inr (.inr (.inl (n, f))) => .inl (G.2.2.2.1, n, .inl f)
  | .inr (.inr (.inr (.inl (n, f)))) => .inl (G.2.2.2.2, n, .inr (.inr (.inr (.inr (fun j => (f j).map G.1)))))
  | .inr (.inr (.inr (.inr (c, fs)))) => .inr (c, fs.map (cv G.1))
def wsA (G : GA) (h : AH) : va_W := (List.range 61).map (fun i => (G.1 i, cnc G (h i)))
def tyA (G : GA) : List (ClassId × FieldType) := [(G.2.1, .int), (G.2.2.1, .long), (G.2.2.2.1, .byte), (G.2.2.2.2, .object RX1)]
theorem wsA_at {G : GA} {h : AH} {i : Nat} (hi : i < 61) : (wsA G h)[i]? = some (G.1 i, cnc G (h i)) := by
  unfold wsA
  rw [List.getElem?_map, List.getElem?_range hi]
  rfl
theorem wsA_len {G : GA} {h : AH} : (wsA G h).length = 61 := by simp [wsA]
theorem wsA_set {G : GA} {h : AH} {i : Nat} {C : AC} (hi : i < 61) : (wsA G h).set i (G.1 i, cnc G C) = wsA G (uH h i C) := by
  apply List.ext_getElem?
  intro j
  by_cases hj : j < 61
  · rw [wsA_at hj, List.getElem?_set]
    by_cases hij : i = j
    · subst hij
      rw [if_pos rfl, if_pos (by rw [wsA_len]; exact hi), uH_s]
    · rw [if_neg hij, wsA_at hj, uH_n _ _ (fun q => hij q.symm)]
  · rw [List.getElem?_eq_none (by rw [List.length_set, wsA_len]; omega), List.getElem?_eq_none (by rw [wsA_len]; omega)]
def prs (ad : Nat → Nat) (lo : Lo) : List (Nat × Value) := (List.range lo.length).filterMap (fun i => match lo[i]? with
  | some (some v) => some (i, cv ad v)
  | _ => none)
theorem mem_prs {ad : Nat → Nat} {lo : Lo} {i : Nat} {w : Value} : (i, w) ∈ prs ad lo ↔ ∃ v, lo[i]? = some (some v) ∧ w = cv ad v := by
  unfold prs
  rw [List.mem_filterMap]
  constructor
  · rintro ⟨j, hj, hq⟩
    split at hq
    · rename_i v hv
      cases hq
      exact ⟨v, hv, rfl⟩
    · cases hq
  · rintro ⟨v, hv, rfl⟩
    have hlt : i < lo.length := (List.getElem?_eq_some_iff.mp hv).1
    exact ⟨i, List.mem_range.mpr hlt, by rw [hv]⟩
theorem kl_at {lo : Lo} {a j : Nat} {u : Value} (h : (kl lo a)[j]? = some (some u)) : lo[j]? = some (some u) ∧ ¬ (j + 1 = a ∧ u.category = 2) := by
  cases a with
  | zero => exact ⟨h, fun q => by omega⟩
  | succ a =>
    have hk : kl lo (a + 1) = (match lo[a]? with
      | some (some (.long _)) => lo.set a none
      | some (some (.double _)) => lo.set a none
      | _ => lo) := rfl
    rw [hk] at h
    generalize hla : lo[a]? = z at h
    rcases z with _ | _ | y
    · exact ⟨h, fun q => by have hj : j = a := by omega
                            subst hj; rw [hla] at h; cases h⟩
    · exact ⟨h, fun q => by have hj : j = a := by omega
                            subst hj; rw [hla] at h; cases h⟩
    · cases y
      case long x =>
        have h : (lo.set a none)[j]? = some (some u) := h
        by_cases hj : j = a
        · subst hj
          rw [List.getElem?_set] at h
          simp at h
        · rw [List.getElem?_set, if_neg (fun q => hj q.symm)] at h
          exact ⟨h, fun q => hj (by omega)⟩
      case double x =>
        have h : (lo.set a none)[j]? = some (some u) := h
        by_cases hj : j = a
        · subst hj
          rw [List.getElem?_set] at h
          simp at h
        · rw [List.getElem?_set, if_neg (fun q => hj q.symm)] at h
          exact ⟨h, fun q => hj (by omega)⟩
      all_goals
        refine ⟨h, fun q => ?_⟩
        obtain ⟨q1, q2⟩ := q
        have hj : j = a := by omega
        subst hj
        have h : lo[j]? = some (some u) := h
        rw [hla] at h
        cases h
        simp [Value.category] at q2
theorem lvs1 {ls : Array Slot} {nL a : Nat} {ad : Nat → Nat} {lo : Lo} {v : Value} (h : lv_has ls nL ((a, cv ad v) :: (prs ad lo).filter (fun q => !(q.1 == a) && !(q.1 + 1 == a && q.2.category == 2)))) : lv_has ls nL (prs ad (set1 lo a v)) := by
  refine ⟨h.1, h.2.1, ?_⟩
  rintro ⟨j, w⟩ hq
  refine h.2.2 (j, w) ?_
  obtain ⟨u, hu, rfl⟩ := mem_prs.mp hq
  unfold set1 at hu
  rw [List.getElem?_set] at hu
  by_cases hja : a = j
  · subst hja
    rw [if_pos rfl] at hu
    split at hu
    · cases hu; exact List.mem_cons_self
    · cases hu
  · rw [if_neg hja] at hu
    obtain ⟨h1, h2⟩ := kl_at hu
    refine List.mem_cons_of_mem _ (List.mem_filter.mpr ⟨mem_prs.mpr ⟨u, h1, rfl⟩, ?_⟩)
    simp only [cv_cat, Bool.and_eq_true, Bool.not_eq_true', beq_eq_false_iff_ne, ne_eq, Bool.and_eq_false_iff]
    refine ⟨fun q => hja q.symm, ?_⟩
    by_cases h3 : j + 1 = a
    · exact Or.inr (fun q => h2 ⟨h3, q⟩)
    · exact Or.inl h3
theorem lvs2 {ls : Array Slot} {nL a : Nat} {ad : Nat → Nat} {lo : Lo} {v : Value} (h : lv_has ls nL ((a, cv ad v) :: (prs ad lo).filter (fun q => !(q.1 == a) && (!(q.1 == a + 1) && !(q.1 + 1 == a && q.2.category == 2))))) : lv_has ls nL (prs ad (set2 lo a v)) := by
  refine ⟨h.1, h.2.1, ?_⟩
  rintro ⟨j, w⟩ hq
  refine h.2.2 (j, w) ?_
  obtain ⟨u, hu, rfl⟩ := mem_prs.mp hq
  unfold set2 at hu
  rw [List.getElem?_set] at hu
  by_cases hj1 : a + 1 = j
  · rw [if_pos hj1] at hu
    split at hu <;> cases hu
  · rw [if_neg hj1, List.getElem?_set] at hu
    by_cases hja : a = j
    · subst hja
      rw [if_pos rfl] at hu
      split at hu
      · cases hu; exact List.mem_cons_self
      · cases hu
    · rw [if_neg hja] at hu
      obtain ⟨h1, h2⟩ := kl_at hu
      refine List.mem_cons_of_mem _ (List.mem_filter.mpr ⟨mem_prs.mpr ⟨u, h1, rfl⟩, ?_⟩)
      simp only [cv_cat, Bool.and_eq_true, Bool.not_eq_true', beq_eq_false_iff_ne, ne_eq, Bool.and_eq_false_iff]
      refine ⟨fun q => hja q.symm, fun q => hj1 q.symm, ?_⟩
      by_cases h3 : j + 1 = a
      · exact Or.inr (fun q => h2 ⟨h3, q⟩)
      · exact Or.inl h3
def HJ (h : AH) : Prop := ∀ a, 61 ≤ a → h a = aO 99 []
theorem HJ_u {h : AH} {a : Nat} {C : AC} (hj : HJ h) (ha : a < 61) : HJ (uH h a C) := fun q hq => by rw [uH_n _ _ (by omega)]; exact hj q hq
def WD (D : va_G) (G : GA) (A : Nat → Prop) (H0 H : Heap) (locs : List Loc) (h : AH) : Prop := va_P D vwCl (wsA G h) H ∧ va_D A (wsA G h) ∧ va_S A H0 H locs ∧ HJ h
def CX (k : Nat) (X : SX) (G : GA) (D : va_G) (p : Program) (s : State) (m : MethodId) (args : Array Value) (c : Code) (R : Room) (A : Nat → Prop) (H0 : Heap) (cells slots : Nat) : Prop :=
  p.tables.exec = Jvm.exec ∧ c.code = byt k ∧ c.maxLocals = mxL k ∧ s.vm.findClass (clN (own k)) = some m.cls ∧ (∀ w ∈ GW, w.before args s = true) ∧ (∀ w ∈ NW, va_Nw w s) ∧ va_K D vwCl (tyA G) s ∧ (frm k ≤ R.frames ∧ lco k ≤ R.locals ∧ cells ≤ R.cells ∧ slots ≤ R.slots) ∧ (∀ q, H0.size ≤ q → A q) ∧ (∀ L xs, X = some (L, xs) → va_X (G.1 61) L xs s H0 ∧ G.1 61 < H0.size ∧ ¬ A (G.1 61))
/-- the pairs of a tableswitch -/
def tsw (pc : Nat) : Int → List Int → List (Int32 × Nat)
  | _, [] => []
  | lo, o :: os => (Int32.ofInt lo, ((pc : Int) + o).toNat) :: tsw pc (lo + 1) os
def putK (a b : Nat) (v : Value) : Bool := match vwCl[a]? with
  | some (_, T, _) => !(T b).2.2.2 && (match parseFieldDescriptor (T b).2.2.1, v with
    | some .int, .int z => z == 0
    | some .boolean, .int z => z == 1
    | some .long, .long _ => true
    | _, _ => false)
  | none => false
def cOp (k a b : Nat) (kd : Nat) : Bool := (match parseMethodDescriptor (nam a).desc with
  | some d => decide (d.parameters.length + (if kd = 0 then 1 else 0) = b)
  | none => false) && decide (frm a + 1 ≤ frm k ∧ 8 + (mxL a + 11) + lco a ≤ lco k)
def mOp (k pc ln op a b : Nat) (v : Value) (ts : List (Int32 × Nat)) (ins : Instr) : Bool := match ins with
  | .iconst n => decide (op = 0 ∧ v = .int (Int32.ofInt n) ∧ ln = 1)
  | .bipush n => decide (op = 0 ∧ v = .int (Int8.ofInt n).toInt32 ∧ ln = 2)
  | .sipush n => decide (op = 0 ∧ v = .int (Int16.ofInt n).toInt32 ∧ ln = 3)
  | .lconst n => decide (op = 0 ∧ v = .long (Int64.ofNat n) ∧ ln = 1)
  | .ldc2_w i => decide (op = 0 ∧ (own k, i, v) ∈ conT ∧ v.category = 2 ∧ ln = 3)
  | .ldc_w i => decide (op = 0 ∧ (own k, i, v) ∈ conT ∧ v.category = 1 ∧ ln = 3)
  | .iload_n n => decide (op = 1 ∧ a = (n : Nat) ∧ b = 0 ∧ ln = 1)
  | .iload i => decide (op = 1 ∧ a = i ∧ b = 0 ∧ ln = 2)
  | .lload_n n => decide (op = 1 ∧ a = (n : Nat) ∧ b = 1 ∧ ln = 1)
  | .lload i => decide (op = 1 ∧ a = i ∧ b = 1 ∧ ln = 2)
  | .aload_n n => decide (op = 1 ∧ a = (n : Nat) ∧ b = 2 ∧ ln = 1)
  | .aload i => decide (op = 1 ∧ a = i ∧ b = 2 ∧ ln = 2)
  | .istore_n n => decide (op = 2 ∧ a = (n : Nat) ∧ b = 0 ∧ ln = 1 ∧ a < mxL k)
  | .istore i => decide (op = 2 ∧ a = i ∧ b = 0 ∧ ln = 2 ∧ a < mxL k)
  | .astore_n n => decide (op = 2 ∧ a = (n : Nat) ∧ b = 2 ∧ ln = 1 ∧ a < mxL k)
  | .astore i => decide (op = 2 ∧ a = i ∧ b = 2 ∧ ln = 2 ∧ a < mxL k)
  | .lstore_n n => decide (op = 3 ∧ a = (n : Nat) ∧ ln = 1 ∧ a + 1 < mxL k)
  | .lstore i => decide (op = 3 ∧ a = i ∧ ln = 2 ∧ a + 1 < mxL k)
  | .iinc i n => decide (op = 4 ∧ a = i ∧ v = .int (Int32.ofInt n) ∧ ln = 3 ∧ a < mxL k)
  | .iadd => decide (op = 5 ∧ b = 0 ∧ ln = 1)
  | .isub => decide (op = 5 ∧ b = 1 ∧ ln = 1)
  | .imul => decide (op = 5 ∧ b = 2 ∧ ln = 1)
  | .iand => decide (op = 5 ∧ b = 3 ∧ ln = 1)
  | .ior => decide (op = 5 ∧ b = 4 ∧ ln = 1)
  | .ixor => decide (op = 5 ∧ b = 5 ∧ ln = 1)
  | .ishl => decide (op = 5 ∧ b = 6 ∧ ln = 1)
  | .ishr => decide (op = 5 ∧ b = 7 ∧ ln = 1)
  | .iushr => decide (op = 5 ∧ b = 8 ∧ ln = 1)
  | .idiv => decide (op = 6 ∧ b = 0 ∧ ln = 1)
  | .irem => decide (op = 6 ∧ b = 1 ∧ ln = 1)
  | .ladd => decide (op = 7 ∧ b = 0 ∧ ln = 1)
  | .lsub => decide (op = 7 ∧ b = 1 ∧ ln = 1)
  | .lmul => decide (op = 7 ∧ b = 2 ∧ ln = 1)
  | .land => decide (op = 7 ∧ b = 3 ∧ ln = 1)
  | .lor => decide (op = 7 ∧ b = 4 ∧ ln = 1)
  | .lxor => decide (op = 7 ∧ b = 5 ∧ ln = 1)
  | .ldiv => decide (op = 8 ∧ b = 0 ∧ ln = 1)
  | .lrem => decide (op = 8 ∧ b = 1 ∧ ln = 1)
  | .lshl => decide (op = 9 ∧ b = 0 ∧ ln = 1)
  | .lshr => decide (op = 9 ∧ b = 1 ∧ ln = 1)
  | .lushr => decide (op = 9 ∧ b = 2 ∧ ln = 1)
  | .ineg => decide (op = 10 ∧ b = 0 ∧ ln = 1)
  | .lneg => decide (op = 10 ∧ b = 1 ∧ ln = 1)
  | .i2l => decide (op = 10 ∧ b = 2 ∧ ln = 1)
  | .l2i => decide (op = 10 ∧ b = 3 ∧ ln = 1)
  | .i2b => decide (op = 10 ∧ b = 4 ∧ ln = 1)
  | .i2s => decide (op = 10 ∧ b = 5 ∧ ln = 1)
  | .lcmp => decide (op = 11 ∧ ln = 1)
  | .ifCond .eq off => decide (op = 12 ∧ b = 0 ∧ ln = 3 ∧ (pc : Int) + off = (a : Int))
  | .ifCond .ne off => decide (op = 12 ∧ b = 1 ∧ ln = 3 ∧ (pc : Int) + off = (a : Int))
  | .ifCond .lt off => decide (op = 12 ∧ b = 2 ∧ ln = 3 ∧ (pc : Int) + off = (a : Int))
  | .ifCond .ge off => decide (op = 12 ∧ b = 3 ∧ ln = 3 ∧ (pc : Int) + off = (a : Int))
  | .ifCond .gt off => decide (op = 12 ∧ b = 4 ∧ ln = 3 ∧ (pc : Int) + off = (a : Int))
  | .ifCond .le off => decide (op = 12 ∧ b = 5 ∧ ln = 3 ∧ (pc : Int) + off = (a : Int))
  | .if_icmp .eq off => decide (op = 13 ∧ b = 0 ∧ ln = 3 ∧ (pc : Int) + off = (a : Int))
  | .if_icmp .ne off => decide (op = 13 ∧ b = 1 ∧ ln = 3 ∧ (pc : Int) + off = (a : Int))
  | .if_icmp .lt off => decide (op = 13 ∧ b = 2 ∧ ln = 3 ∧ (pc : Int) + off = (a : Int))
  | .if_icmp .ge off => decide (op = 13 ∧ b = 3 ∧ ln = 3 ∧ (pc : Int) + off = (a : Int))
  | .if_icmp .gt off => decide (op = 13 ∧ b = 4 ∧ ln = 3 ∧ (pc : Int) + off = (a : Int))
  | .if_icmp .le off => decide (op = 13 ∧ b = 5 ∧ ln = 3 ∧ (pc : Int) + off = (a : Int))
  | .goto off => decide (op = 14 ∧ ln = 3 ∧ (pc : Int) + off = (a : Int))
  | .dup => decide (op = 15 ∧ ln = 1)
  | .pop => decide (op = 16 ∧ ln = 1)
  | .dup2 => decide (op = 17 ∧ ln = 1)
  | .getfield i => decide (op = 18 ∧ (own k, i, a, b) ∈ fldT ∧ ln = 3)
  | .putfield i => decide (op = 19 ∧ (own k, i, a, b) ∈ fldT ∧ putK a b v = true ∧ ln = 3)
  | .iaload => decide (op = 20 ∧ ln = 1)
  | .laload => decide (op = 21 ∧ ln = 1)
  | .baload => decide (op = 22 ∧ ln = 1)
  | .aaload => decide (op = 23 ∧ ln = 1)
  | .iastore => decide (op = 24 ∧ ln = 1)
  | .lastore => decide (op = 25 ∧ ln = 1)
  | .bastore => decide (op = 26 ∧ ln = 1)
  | .arraylength => decide (op = 27 ∧ ln = 1)
  | .invokevirtual i => decide (op = 37 ∧ (own k, i, a, 0) ∈ metT ∧ cOp k a b 0 = true ∧ ln = 3 ∧ ts = [(0, own a)])
  | .invokestatic i => decide (op = 28 ∧ ((own k, i, a, 1) ∈ metT ∨ (own k, i, a, 2) ∈ metT) ∧ cOp k a b 1 = true ∧ ln = 3) || (decide (op = 29 ∧ (own k, i, 999, 3) ∈ metT ∧ 1 ≤ frm k ∧ 18 ≤ lco k ∧ ln = 3) || (decide (op = 34 ∧ (own k, i, 999, 4) ∈ metT ∧ 1 ≤ frm k ∧ 21 ≤ lco k ∧ ln = 3) || (decide (op = 35 ∧ (own k, i, 999, 5) ∈ metT ∧ 1 ≤ frm k ∧ 21 ≤ lco k ∧ ln = 3) || decide (op = 36 ∧ (own k, i, 999, 6) ∈ metT ∧ 1 ≤ frm k ∧ 21 ≤ lco k ∧ ln = 3))))
  | .ireturn => decide (op = 30 ∧ ((b = 0 ∧ rett k = some .int) ∨ (b = 1 ∧ rett k = some .boolean)) ∧ ln = 1)
  | .lreturn => decide (op = 31 ∧ rett k = some .long ∧ ln = 1)
  | .return_ => decide (op = 32 ∧ rett k = none ∧ ln = 1)
  | .tableswitch d lo hi offs => decide (op = 33 ∧ (pc : Int) + d = (a : Int) ∧ ts = tsw pc lo offs.toList ∧ hi = lo + offs.size - 1 ∧ -2147483648 ≤ lo ∧ hi < 2147483648 ∧ (∀ x ∈ offs.toList, 0 ≤ (pc : Int) + x))
  | .lookupswitch d ps => decide (op = 33 ∧ (pc : Int) + d = (a : Int) ∧ ts = ps.toList.map (fun q => (Int32.ofInt q.1, ((pc : Int) + q.2).toNat)) ∧ (ps.toList.zip (ps.toList.drop 1)).all (fun (a, next) => a.1 < next.1) = true ∧ (∀ q ∈ ps.toList, 0 ≤ (pc : Int) + q.2 ∧ -2147483648 ≤ q.1 ∧ q.1 < 2147483648))
  | _ => false
def okE (k : Nat) (e : CE) : Bool := match decode (byt k) e.1 with
  | .ok (ins, ln) => (ln == e.2.1) && mOp k e.1 e.2.1 e.2.2.1 e.2.2.2.1 e.2.2.2.2.1 e.2.2.2.2.2.1 e.2.2.2.2.2.2 ins
  | .error _ => false
def okC (k : Nat) : Nat → List CE → Bool
  | _, [] => true
  | pc, e :: c => (e.1 == pc) && okE k e && okC k (pc + e.2.1) c

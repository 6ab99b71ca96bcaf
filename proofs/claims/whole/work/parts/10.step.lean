/-! a step of the own machine is a step of the machine -/
def nxt (e : CE) (j : Option Nat) : Nat := match j with
  | none => e.1 + e.2.1
  | some t => t
theorem gf_inv {h : AH} {q a b : Nat} {w : Value} (hg : gf h q a b = some w) : ∃ fs, h q = aO a fs ∧ fs[b]? = some w := by
  unfold gf at hg
  split at hg
  · rename_i c fs hq
    split at hg
    · rename_i hc
      subst hc
      exact ⟨fs, hq, hg⟩
    · cases hg
  · cases hg
theorem pf_inv {h h' : AH} {q a b : Nat} {w : Value} (hg : pf h q a b w = some h') : ∃ fs, h q = aO a fs ∧ b < fs.length ∧ h' = uH h q (aO a (fs.set b w)) := by
  unfold pf at hg
  split at hg
  · rename_i c fs hq
    split at hg
    · rename_i hc
      obtain ⟨hc, hb⟩ := hc
      subst hc
      cases hg
      exact ⟨fs, hq, hb, rfl⟩
    · cases hg
  · cases hg
theorem lt61 {h : AH} (hj : HJ h) {q : Nat} {C : AC} (hq : h q = C) (hC : C ≠ aO 99 []) : q < 61 := by
  rcases Nat.lt_or_ge q 61 with h1 | h1
  · exact h1
  · exact absurd (hq.symm.trans (hj q h1)) hC
theorem WD_put {D : va_G} {G : GA} {A : Nat → Prop} {H0 H1 : Heap} {locs1 : List Loc} {h : AH} {q : Nat} {C : AC} (hj : HJ h) (hq : q < 61) (hP : va_P D vwCl ((wsA G h).set q (G.1 q, cnc G C)) H1) (hD : va_D A ((wsA G h).set q (G.1 q, cnc G C))) (hS : va_S A H0 H1 locs1) : WD D G A H0 H1 locs1 (uH h q C) := by
  rw [wsA_set hq] at hP hD
  exact ⟨hP, hD, hS, HJ_u hj hq⟩
theorem fld_of {k i a b : Nat} (h : (k, i, a, b) ∈ fldT) : ∃ (C : String) (T : u_T) (N : Nat), vwCl[a]? = some (C, T, N) ∧ b < N ∧ Cond.fieldLink (clN k) i (T b).1 (T b).2.1 (T b).2.2.1 ∈ GW ∧ ∀ w ∈ u_ws C T N, w ∈ GW := by
  have h1 := List.all_eq_true.mp fldOK _ h
  unfold FOKb at h1
  split at h1
  · rename_i C T N hv
    rw [Bool.and_eq_true] at h1
    refine ⟨C, T, N, hv, of_decide_eq_true h1.1, gw_of (of_decide_eq_true h1.2) rfl, fun w hw => ?_⟩
    have h2 := List.all_eq_true.mp inAll _ (List.mem_of_getElem? hv)
    have h3 := List.all_eq_true.mp h2 w hw
    rw [Bool.and_eq_true] at h3
    exact gw_of (of_decide_eq_true h3.1) h3.2
  · cases h1
theorem vw_ty {a : Nat} {C : String} {T : u_T} {N : Nat} (h : vwCl[a]? = some (C, T, N)) : ∃ ty0 : Nat → FieldType, (∀ k, k < N → parseFieldDescriptor (T k).2.2.1 = some (ty0 k)) ∧ (∀ a, a < N → ∀ b, b < N → a ≠ b → (T a).2.1 ≠ (T b).2.1) := by
  match a, h with
  | 0, h => cases h; exact ⟨tyX0, tyX0_ok, nmX0⟩
  | 1, h => cases h; exact ⟨tyX1, tyX1_ok, nmX1⟩
  | 2, h => cases h; exact ⟨tyX2, tyX2_ok, nmX2⟩
  | 3, h => cases h; exact ⟨tyX3, tyX3_ok, nmX3⟩
  | 4, h => cases h; exact ⟨tyX4, tyX4_ok, nmX4⟩
  | 5, h => cases h; exact ⟨tyX5, tyX5_ok, nmX5⟩
  | n + 6, h => simp [vwCl] at h
theorem b1_fit {x : Int32} (h : x &&& 1 = x) : fits .boolean (.int x) = true := by
  have h2 : x = 0 ∨ x = 1 := by
    have e : x &&& 1 = nI (x.toBitVec.toNat % 2 ^ 1) := pk_and x 1 (by decide)
    rw [h] at e
    have : x.toBitVec.toNat % 2 ^ 1 < 2 := Nat.mod_lt _ (by decide)
    generalize x.toBitVec.toNat % 2 ^ 1 = y at e this
    match y, this with
    | 0, _ => exact Or.inl e
    | 1, _ => exact Or.inr e
  rcases h2 with rfl | rfl <;> decide
theorem tsw_in (pc d : Nat) (x : Int32) : ∀ (os : List Int) (lo : Int), -2147483648 ≤ lo → lo + os.length ≤ 2147483648 → (∀ i, (hi : i < os.length) → x.toInt = lo + i → swT x d (tsw pc lo os) = ((pc : Int) + os[i]).toNat) ∧ ((x.toInt < lo ∨ lo + os.length ≤ x.toInt) → swT x d (tsw pc lo os) = d) := by
  intro os
  induction os with
  | nil => intro lo h1 h2; exact ⟨fun i hi => absurd hi (Nat.not_lt_zero i), fun _ => rfl⟩
  | cons o os ih =>
    intro lo h1 h2
    simp only [List.length_cons, Int.natCast_add, Int.natCast_one] at h2
    have hlo : (Int32.ofInt lo).toInt = lo := Int32.toInt_ofInt_of_le (by simpa using h1) (by omega)
    obtain ⟨i1, i2⟩ := ih (lo + 1) (by omega) (by omega)
    constructor
    · intro i hi hx
      cases i with
      | zero =>
        have : x = Int32.ofInt lo := Int32.toInt_inj.mp (by rw [hlo, hx]; simp)
        simp only [tsw, swT, if_pos this, List.getElem_cons_zero]
      | succ i =>
        have hne : ¬ x = Int32.ofInt lo := fun q => by
          have := congrArg Int32.toInt q
          rw [hlo, hx] at this
          omega
        simp only [tsw, swT, if_neg hne, List.getElem_cons_succ]
        exact i1 i (by simpa using hi) (by rw [hx]; omega)
    · intro hx
      simp only [List.length_cons, Int.natCast_add, Int.natCast_one] at hx
      have hne : ¬ x = Int32.ofInt lo := fun q => by
        have := congrArg Int32.toInt q
        rw [hlo] at this
        omega
      simp only [tsw, swT, if_neg hne]
      exact i2 (by omega)
theorem lsw_in (pc d : Nat) (dd : Int) (x : Int32) (hd : (pc : Int) + dd = (d : Int)) : ∀ (ps : List (Int × Int)), (∀ q ∈ ps, 0 ≤ (pc : Int) + q.2 ∧ -2147483648 ≤ q.1 ∧ q.1 < 2147483648) → (pc : Int) + Op.lookupswitch.offset ps dd x.toInt = (swT x d (ps.map (fun q => (Int32.ofInt q.1, ((pc : Int) + q.2).toNat))) : Int) := by
  intro ps
  induction ps with
  | nil => intro _; simpa [swT, Op.lookupswitch.offset] using hd
  | cons q ps ih =>
    intro h
    obtain ⟨a, o⟩ := q
    have h0 := h (a, o) List.mem_cons_self
    have ha : (Int32.ofInt a).toInt = a := Int32.toInt_ofInt_of_le (by simpa using h0.2.1) (by simpa using h0.2.2)
    rw [Op.lookupswitch.offset_cons]
    simp only [List.map_cons, swT]
    by_cases hx : x = Int32.ofInt a
    · have h1 : x.toInt = a := by rw [hx, ha]
      rw [if_pos hx]
      first | rw [if_pos h1] | rw [if_pos h1.symm]
      have := h0.1
      omega
    · have h1 : ¬ x.toInt = a := fun z => hx (Int32.toInt_inj.mp (by rw [ha]; exact z))
      rw [if_neg hx]
      first | rw [if_neg h1] | rw [if_neg (fun z => h1 z.symm)]
      exact ih (fun q hq => h q (List.mem_cons_of_mem _ hq))
theorem cats_le (ad : Nat → Nat) : ∀ (st : List Value), st.length ≤ 4 → ((st.map (cv ad)).map fun v => v.category).sum ≤ 8 := by
  have h2 : ∀ v : Value, v.category ≤ 2 := fun v => by cases v <;> simp [Value.category]
  have h1 : ∀ (st : List Value), ((st.map (cv ad)).map fun v => v.category).sum ≤ 2 * st.length := by
    intro st
    induction st with
    | nil => simp
    | cons v st ih =>
      simp only [List.map_cons, List.sum_cons, List.length_cons]
      have := h2 (cv ad v)
      omega
  intro st h
  have := h1 st
  omega
def KKt (p : Program) (l : Launch) (e : Env) (R : Room) (s : State) (m : MethodId) (args : Array Value) (below : List Frame) (meth : Method) (c : Code) (A : Nat → Prop) (H0 : Heap) (cells slots : Nat) (Qf : State → Prop) (D : va_G) (G : GA) (k : Nat) (h : AH) (lo : Lo) (st : List Value) (pc : Nat) : Prop := ∀ (H : Heap) (locs : List Loc) (ls : Array Slot), WD D G A H0 H locs h → lv_has ls (mxL k) (prs G.1 lo) → W p l e R s m args below meth c H locs cells slots Qf (F0 m pc ls (st.map (cv G.1)))
set_option maxHeartbeats 2000000 in
set_option maxRecDepth 100000 in
theorem q_iconst {p : Program} {l : Launch} {e : Env} {R : Room} {s : State} {m : MethodId} {args : Array Value} {below : List Frame} {meth : Method} {c : Code} {A : Nat → Prop} {H0 : Heap} {cells slots : Nat} {Qf : State → Prop} {D : va_G} {G : GA} {k : Nat} {X : SX} (C : CX k X G D p s m args c R A H0 cells slots) {pc ln op a b : Nat} {v : Value} {ts : List (Int32 × Nat)} {lo lo' : Lo} {st st' : List Value} {h h' : AH} {j : Option Nat} (hs : stp X (pc, ln, op, a, b, v, ts) lo st h = some (.inl (j, lo', st', h'))) {n : Int} (hd : decode (byt k) pc = .ok (.iconst n, ln)) (hm : mOp k pc ln op a b v ts (.iconst n) = true) (kk : KKt p l e R s m args below meth c A H0 cells slots Qf D G k h' lo' st' (nxt (pc, ln, op, a, b, v, ts) j)) : KKt p l e R s m args below meth c A H0 cells slots Qf D G k h lo st pc := by
  intro H locs ls hw hl
  obtain ⟨hx, hb, hml, hown, hts, hnw, hK, hR, hA, hX⟩ := C
  obtain ⟨hP, hD, hS, hj⟩ := id hw
  obtain ⟨rfl, rfl, rfl⟩ := of_decide_eq_true hm
  cases (show some (Sum.inl (none, lo, (Value.int (Int32.ofInt n)) :: st, h)) = some (Sum.inl (j, lo', st', h')) from hs)
  exact lv_iconst hx hb hd rfl (kk H locs ls hw hl)
set_option maxHeartbeats 2000000 in
set_option maxRecDepth 100000 in
theorem q_bipush {p : Program} {l : Launch} {e : Env} {R : Room} {s : State} {m : MethodId} {args : Array Value} {below : List Frame} {meth : Method} {c : Code} {A : Nat → Prop} {H0 : Heap} {cells slots : Nat} {Qf : State → Prop} {D : va_G} {G : GA} {k : Nat} {X : SX} (C : CX k X G D p s m args c R A H0 cells slots) {pc ln op a b : Nat} {v : Value} {ts : List (Int32 × Nat)} {lo lo' : Lo} {st st' : List Value} {h h' : AH} {j : Option Nat} (hs : stp X (pc, ln, op, a, b, v, ts) lo st h = some (.inl (j, lo', st', h'))) {n : Int} (hd : decode (byt k) pc = .ok (.bipush n, ln)) (hm : mOp k pc ln op a b v ts (.bipush n) = true) (kk : KKt p l e R s m args below meth c A H0 cells slots Qf D G k h' lo' st' (nxt (pc, ln, op, a, b, v, ts) j)) : KKt p l e R s m args below meth c A H0 cells slots Qf D G k h lo st pc := by
  intro H locs ls hw hl
  obtain ⟨hx, hb, hml, hown, hts, hnw, hK, hR, hA, hX⟩ := C
  obtain ⟨hP, hD, hS, hj⟩ := id hw
  obtain ⟨rfl, rfl, rfl⟩ := of_decide_eq_true hm
  cases (show some (Sum.inl (none, lo, (Value.int (Int8.ofInt n).toInt32) :: st, h)) = some (Sum.inl (j, lo', st', h')) from hs)
  exact lv_bipush hx hb hd rfl (kk H locs ls hw hl)
set_option maxHeartbeats 2000000 in
set_option maxRecDepth 100000 in
theorem q_sipush {p : Program} {l : Launch} {e : Env} {R : Room} {s : State} {m : MethodId} {args : Array Value} {below : List Frame} {meth : Method} {c : Code} {A : Nat → Prop} {H0 : Heap} {cells slots : Nat} {Qf : State → Prop} {D : va_G} {G : GA} {k : Nat} {X : SX} (C : CX k X G D p s m args c R A H0 cells slots) {pc ln op a b : Nat} {v : Value} {ts : List (Int32 × Nat)} {lo lo' : Lo} {st st' : List Value} {h h' : AH} {j : Option Nat} (hs : stp X (pc, ln, op, a, b, v, ts) lo st h = some (.inl (j, lo', st', h'))) {n : Int} (hd : decode (byt k) pc = .ok (.sipush n, ln)) (hm : mOp k pc ln op a b v ts (.sipush n) = true) (kk : KKt p l e R s m args below meth c A H0 cells slots Qf D G k h' lo' st' (nxt (pc, ln, op, a, b, v, ts) j)) : KKt p l e R s m args below meth c A H0 cells slots Qf D G k h lo st pc := by
  intro H locs ls hw hl
  obtain ⟨hx, hb, hml, hown, hts, hnw, hK, hR, hA, hX⟩ := C
  obtain ⟨hP, hD, hS, hj⟩ := id hw
  obtain ⟨rfl, rfl, rfl⟩ := of_decide_eq_true hm
  cases (show some (Sum.inl (none, lo, (Value.int (Int16.ofInt n).toInt32) :: st, h)) = some (Sum.inl (j, lo', st', h')) from hs)
  exact lv_sipush hx hb hd rfl (kk H locs ls hw hl)
set_option maxHeartbeats 2000000 in
set_option maxRecDepth 100000 in
theorem q_lconst {p : Program} {l : Launch} {e : Env} {R : Room} {s : State} {m : MethodId} {args : Array Value} {below : List Frame} {meth : Method} {c : Code} {A : Nat → Prop} {H0 : Heap} {cells slots : Nat} {Qf : State → Prop} {D : va_G} {G : GA} {k : Nat} {X : SX} (C : CX k X G D p s m args c R A H0 cells slots) {pc ln op a b : Nat} {v : Value} {ts : List (Int32 × Nat)} {lo lo' : Lo} {st st' : List Value} {h h' : AH} {j : Option Nat} (hs : stp X (pc, ln, op, a, b, v, ts) lo st h = some (.inl (j, lo', st', h'))) {n : Fin 2} (hd : decode (byt k) pc = .ok (.lconst n, ln)) (hm : mOp k pc ln op a b v ts (.lconst n) = true) (kk : KKt p l e R s m args below meth c A H0 cells slots Qf D G k h' lo' st' (nxt (pc, ln, op, a, b, v, ts) j)) : KKt p l e R s m args below meth c A H0 cells slots Qf D G k h lo st pc := by
  intro H locs ls hw hl
  obtain ⟨hx, hb, hml, hown, hts, hnw, hK, hR, hA, hX⟩ := C
  obtain ⟨hP, hD, hS, hj⟩ := id hw
  obtain ⟨rfl, rfl, rfl⟩ := of_decide_eq_true hm
  cases (show some (Sum.inl (none, lo, (Value.long (Int64.ofNat n)) :: st, h)) = some (Sum.inl (j, lo', st', h')) from hs)
  exact lv_lconst hx hb hd rfl (kk H locs ls hw hl)
set_option maxHeartbeats 2000000 in
set_option maxRecDepth 100000 in
theorem q_ldc2_w {p : Program} {l : Launch} {e : Env} {R : Room} {s : State} {m : MethodId} {args : Array Value} {below : List Frame} {meth : Method} {c : Code} {A : Nat → Prop} {H0 : Heap} {cells slots : Nat} {Qf : State → Prop} {D : va_G} {G : GA} {k : Nat} {X : SX} (C : CX k X G D p s m args c R A H0 cells slots) {pc ln op a b : Nat} {v : Value} {ts : List (Int32 × Nat)} {lo lo' : Lo} {st st' : List Value} {h h' : AH} {j : Option Nat} (hs : stp X (pc, ln, op, a, b, v, ts) lo st h = some (.inl (j, lo', st', h'))) {i : Nat} (hd : decode (byt k) pc = .ok (.ldc2_w i, ln)) (hm : mOp k pc ln op a b v ts (.ldc2_w i) = true) (kk : KKt p l e R s m args below meth c A H0 cells slots Qf D G k h' lo' st' (nxt (pc, ln, op, a, b, v, ts) j)) : KKt p l e R s m args below meth c A H0 cells slots Qf D G k h lo st pc := by
  intro H locs ls hw hl
  obtain ⟨hx, hb, hml, hown, hts, hnw, hK, hR, hA, hX⟩ := C
  obtain ⟨hP, hD, hS, hj⟩ := id hw
  obtain ⟨rfl, hc, hv, rfl⟩ := of_decide_eq_true hm
  cases (show some (Sum.inl (none, lo, v :: st, h)) = some (Sum.inl (j, lo', st', h')) from hs)
  have hk := conOK _ hc
  cases v
  case long z => exact lv_ldc2 hx hb hown (hts _ (gw_of hk rfl)) hd (kk H locs ls hw hl)
  all_goals first | (simp [Value.category] at hv; done) | exact hk.elim
set_option maxHeartbeats 2000000 in
set_option maxRecDepth 100000 in
theorem q_ldc_w {p : Program} {l : Launch} {e : Env} {R : Room} {s : State} {m : MethodId} {args : Array Value} {below : List Frame} {meth : Method} {c : Code} {A : Nat → Prop} {H0 : Heap} {cells slots : Nat} {Qf : State → Prop} {D : va_G} {G : GA} {k : Nat} {X : SX} (C : CX k X G D p s m args c R A H0 cells slots) {pc ln op a b : Nat} {v : Value} {ts : List (Int32 × Nat)} {lo lo' : Lo} {st st' : List Value} {h h' : AH} {j : Option Nat} (hs : stp X (pc, ln, op, a, b, v, ts) lo st h = some (.inl (j, lo', st', h'))) {i : Nat} (hd : decode (byt k) pc = .ok (.ldc_w i, ln)) (hm : mOp k pc ln op a b v ts (.ldc_w i) = true) (kk : KKt p l e R s m args below meth c A H0 cells slots Qf D G k h' lo' st' (nxt (pc, ln, op, a, b, v, ts) j)) : KKt p l e R s m args below meth c A H0 cells slots Qf D G k h lo st pc := by
  intro H locs ls hw hl
  obtain ⟨hx, hb, hml, hown, hts, hnw, hK, hR, hA, hX⟩ := C
  obtain ⟨hP, hD, hS, hj⟩ := id hw
  obtain ⟨rfl, hc, hv, rfl⟩ := of_decide_eq_true hm
  cases (show some (Sum.inl (none, lo, v :: st, h)) = some (Sum.inl (j, lo', st', h')) from hs)
  have hk := conOK _ hc
  cases v
  case int z => exact lv_ldcw hx hb hown (hts _ (gw_of hk rfl)) hd (kk H locs ls hw hl)
  all_goals first | (simp [Value.category] at hv; done) | exact hk.elim
set_option maxHeartbeats 2000000 in
set_option maxRecDepth 100000 in
theorem q_iload_n {p : Program} {l : Launch} {e : Env} {R : Room} {s : State} {m : MethodId} {args : Array Value} {below : List Frame} {meth : Method} {c : Code} {A : Nat → Prop} {H0 : Heap} {cells slots : Nat} {Qf : State → Prop} {D : va_G} {G : GA} {k : Nat} {X : SX} (C : CX k X G D p s m args c R A H0 cells slots) {pc ln op a b : Nat} {v : Value} {ts : List (Int32 × Nat)} {lo lo' : Lo} {st st' : List Value} {h h' : AH} {j : Option Nat} (hs : stp X (pc, ln, op, a, b, v, ts) lo st h = some (.inl (j, lo', st', h'))) {n : Fin 4} (hd : decode (byt k) pc = .ok (.iload_n n, ln)) (hm : mOp k pc ln op a b v ts (.iload_n n) = true) (kk : KKt p l e R s m args below meth c A H0 cells slots Qf D G k h' lo' st' (nxt (pc, ln, op, a, b, v, ts) j)) : KKt p l e R s m args below meth c A H0 cells slots Qf D G k h lo st pc := by
  intro H locs ls hw hl
  obtain ⟨hx, hb, hml, hown, hts, hnw, hK, hR, hA, hX⟩ := C
  obtain ⟨hP, hD, hS, hj⟩ := id hw
  obtain ⟨rfl, ha, rfl, rfl⟩ := of_decide_eq_true hm
  replace hs : s1 a 0 lo st h = _ := hs
  unfold s1 at hs
  rcases hla : lo[a]? with _ | _ | y
  · rw [hla] at hs; cases hs
  · rw [hla] at hs; cases hs
  · rw [hla] at hs
    cases y
    case int x =>
      cases (show some (Sum.inl (none, lo, (Value.int x) :: st, h)) = some (Sum.inl (j, lo', st', h')) from hs)
      exact lv_iload_n hx hb hd ha.symm (hl.2.2 (a, _) (mem_prs.mpr ⟨.int x, hla, rfl⟩)) (kk H locs ls hw hl)
    all_goals (cases hs)
set_option maxHeartbeats 2000000 in
set_option maxRecDepth 100000 in
theorem q_iload {p : Program} {l : Launch} {e : Env} {R : Room} {s : State} {m : MethodId} {args : Array Value} {below : List Frame} {meth : Method} {c : Code} {A : Nat → Prop} {H0 : Heap} {cells slots : Nat} {Qf : State → Prop} {D : va_G} {G : GA} {k : Nat} {X : SX} (C : CX k X G D p s m args c R A H0 cells slots) {pc ln op a b : Nat} {v : Value} {ts : List (Int32 × Nat)} {lo lo' : Lo} {st st' : List Value} {h h' : AH} {j : Option Nat} (hs : stp X (pc, ln, op, a, b, v, ts) lo st h = some (.inl (j, lo', st', h'))) {i : Nat} (hd : decode (byt k) pc = .ok (.iload i, ln)) (hm : mOp k pc ln op a b v ts (.iload i) = true) (kk : KKt p l e R s m args below meth c A H0 cells slots Qf D G k h' lo' st' (nxt (pc, ln, op, a, b, v, ts) j)) : KKt p l e R s m args below meth c A H0 cells slots Qf D G k h lo st pc := by
  intro H locs ls hw hl
  obtain ⟨hx, hb, hml, hown, hts, hnw, hK, hR, hA, hX⟩ := C
  obtain ⟨hP, hD, hS, hj⟩ := id hw
  obtain ⟨rfl, rfl, rfl, rfl⟩ := of_decide_eq_true hm
  replace hs : s1 a 0 lo st h = _ := hs
  unfold s1 at hs
  rcases hla : lo[a]? with _ | _ | y
  · rw [hla] at hs; cases hs
  · rw [hla] at hs; cases hs
  · rw [hla] at hs
    cases y
    case int x =>
      cases (show some (Sum.inl (none, lo, (Value.int x) :: st, h)) = some (Sum.inl (j, lo', st', h')) from hs)
      exact lv_iload hx hb hd (hl.2.2 (a, _) (mem_prs.mpr ⟨.int x, hla, rfl⟩)) (kk H locs ls hw hl)
    all_goals (cases hs)
set_option maxHeartbeats 2000000 in
set_option maxRecDepth 100000 in
theorem q_lload_n {p : Program} {l : Launch} {e : Env} {R : Room} {s : State} {m : MethodId} {args : Array Value} {below : List Frame} {meth : Method} {c : Code} {A : Nat → Prop} {H0 : Heap} {cells slots : Nat} {Qf : State → Prop} {D : va_G} {G : GA} {k : Nat} {X : SX} (C : CX k X G D p s m args c R A H0 cells slots) {pc ln op a b : Nat} {v : Value} {ts : List (Int32 × Nat)} {lo lo' : Lo} {st st' : List Value} {h h' : AH} {j : Option Nat} (hs : stp X (pc, ln, op, a, b, v, ts) lo st h = some (.inl (j, lo', st', h'))) {n : Fin 4} (hd : decode (byt k) pc = .ok (.lload_n n, ln)) (hm : mOp k pc ln op a b v ts (.lload_n n) = true) (kk : KKt p l e R s m args below meth c A H0 cells slots Qf D G k h' lo' st' (nxt (pc, ln, op, a, b, v, ts) j)) : KKt p l e R s m args below meth c A H0 cells slots Qf D G k h lo st pc := by
  intro H locs ls hw hl
  obtain ⟨hx, hb, hml, hown, hts, hnw, hK, hR, hA, hX⟩ := C
  obtain ⟨hP, hD, hS, hj⟩ := id hw
  obtain ⟨rfl, ha, rfl, rfl⟩ := of_decide_eq_true hm
  replace hs : s1 a 1 lo st h = _ := hs
  unfold s1 at hs
  rcases hla : lo[a]? with _ | _ | y
  · rw [hla] at hs; cases hs
  · rw [hla] at hs; cases hs
  · rw [hla] at hs
    cases y
    case long x =>
      cases (show some (Sum.inl (none, lo, (Value.long x) :: st, h)) = some (Sum.inl (j, lo', st', h')) from hs)
      exact lv_lload_n hx hb hd ha.symm (hl.2.2 (a, _) (mem_prs.mpr ⟨.long x, hla, rfl⟩)) (kk H locs ls hw hl)
    all_goals (cases hs)
set_option maxHeartbeats 2000000 in
set_option maxRecDepth 100000 in
theorem q_lload {p : Program} {l : Launch} {e : Env} {R : Room} {s : State} {m : MethodId} {args : Array Value} {below : List Frame} {meth : Method} {c : Code} {A : Nat → Prop} {H0 : Heap} {cells slots : Nat} {Qf : State → Prop} {D : va_G} {G : GA} {k : Nat} {X : SX} (C : CX k X G D p s m args c R A H0 cells slots) {pc ln op a b : Nat} {v : Value} {ts : List (Int32 × Nat)} {lo lo' : Lo} {st st' : List Value} {h h' : AH} {j : Option Nat} (hs : stp X (pc, ln, op, a, b, v, ts) lo st h = some (.inl (j, lo', st', h'))) {i : Nat} (hd : decode (byt k) pc = .ok (.lload i, ln)) (hm : mOp k pc ln op a b v ts (.lload i) = true) (kk : KKt p l e R s m args below meth c A H0 cells slots Qf D G k h' lo' st' (nxt (pc, ln, op, a, b, v, ts) j)) : KKt p l e R s m args below meth c A H0 cells slots Qf D G k h lo st pc := by
  intro H locs ls hw hl
  obtain ⟨hx, hb, hml, hown, hts, hnw, hK, hR, hA, hX⟩ := C
  obtain ⟨hP, hD, hS, hj⟩ := id hw
  obtain ⟨rfl, rfl, rfl, rfl⟩ := of_decide_eq_true hm
  replace hs : s1 a 1 lo st h = _ := hs
  unfold s1 at hs
  rcases hla : lo[a]? with _ | _ | y
  · rw [hla] at hs; cases hs
  · rw [hla] at hs; cases hs
  · rw [hla] at hs
    cases y
    case long x =>
      cases (show some (Sum.inl (none, lo, (Value.long x) :: st, h)) = some (Sum.inl (j, lo', st', h')) from hs)
      exact lv_lload hx hb hd (hl.2.2 (a, _) (mem_prs.mpr ⟨.long x, hla, rfl⟩)) (kk H locs ls hw hl)
    all_goals (cases hs)
set_option maxHeartbeats 2000000 in
set_option maxRecDepth 100000 in
theorem q_aload_n {p : Program} {l : Launch} {e : Env} {R : Room} {s : State} {m : MethodId} {args : Array Value} {below : List Frame} {meth : Method} {c : Code} {A : Nat → Prop} {H0 : Heap} {cells slots : Nat} {Qf : State → Prop} {D : va_G} {G : GA} {k : Nat} {X : SX} (C : CX k X G D p s m args c R A H0 cells slots) {pc ln op a b : Nat} {v : Value} {ts : List (Int32 × Nat)} {lo lo' : Lo} {st st' : List Value} {h h' : AH} {j : Option Nat} (hs : stp X (pc, ln, op, a, b, v, ts) lo st h = some (.inl (j, lo', st', h'))) {n : Fin 4} (hd : decode (byt k) pc = .ok (.aload_n n, ln)) (hm : mOp k pc ln op a b v ts (.aload_n n) = true) (kk : KKt p l e R s m args below meth c A H0 cells slots Qf D G k h' lo' st' (nxt (pc, ln, op, a, b, v, ts) j)) : KKt p l e R s m args below meth c A H0 cells slots Qf D G k h lo st pc := by
  intro H locs ls hw hl
  obtain ⟨hx, hb, hml, hown, hts, hnw, hK, hR, hA, hX⟩ := C
  obtain ⟨hP, hD, hS, hj⟩ := id hw
  obtain ⟨rfl, ha, rfl, rfl⟩ := of_decide_eq_true hm
  replace hs : s1 a 2 lo st h = _ := hs
  unfold s1 at hs
  rcases hla : lo[a]? with _ | _ | y
  · rw [hla] at hs; cases hs
  · rw [hla] at hs; cases hs
  · rw [hla] at hs
    cases y
    case ref x =>
      cases (show some (Sum.inl (none, lo, (Value.ref x) :: st, h)) = some (Sum.inl (j, lo', st', h')) from hs)
      exact lv_aload_n hx hb hd ha.symm (hl.2.2 (a, _) (mem_prs.mpr ⟨.ref x, hla, rfl⟩)) (kk H locs ls hw hl)
    all_goals (cases hs)
set_option maxHeartbeats 2000000 in
set_option maxRecDepth 100000 in
theorem q_aload {p : Program} {l : Launch} {e : Env} {R : Room} {s : State} {m : MethodId} {args : Array Value} {below : List Frame} {meth : Method} {c : Code} {A : Nat → Prop} {H0 : Heap} {cells slots : Nat} {Qf : State → Prop} {D : va_G} {G : GA} {k : Nat} {X : SX} (C : CX k X G D p s m args c R A H0 cells slots) {pc ln op a b : Nat} {v : Value} {ts : List (Int32 × Nat)} {lo lo' : Lo} {st st' : List Value} {h h' : AH} {j : Option Nat} (hs : stp X (pc, ln, op, a, b, v, ts) lo st h = some (.inl (j, lo', st', h'))) {i : Nat} (hd : decode (byt k) pc = .ok (.aload i, ln)) (hm : mOp k pc ln op a b v ts (.aload i) = true) (kk : KKt p l e R s m args below meth c A H0 cells slots Qf D G k h' lo' st' (nxt (pc, ln, op, a, b, v, ts) j)) : KKt p l e R s m args below meth c A H0 cells slots Qf D G k h lo st pc := by
  intro H locs ls hw hl
  obtain ⟨hx, hb, hml, hown, hts, hnw, hK, hR, hA, hX⟩ := C
  obtain ⟨hP, hD, hS, hj⟩ := id hw
  obtain ⟨rfl, rfl, rfl, rfl⟩ := of_decide_eq_true hm
  replace hs : s1 a 2 lo st h = _ := hs
  unfold s1 at hs
  rcases hla : lo[a]? with _ | _ | y
  · rw [hla] at hs; cases hs
  · rw [hla] at hs; cases hs
  · rw [hla] at hs
    cases y
    case ref x =>
      cases (show some (Sum.inl (none, lo, (Value.ref x) :: st, h)) = some (Sum.inl (j, lo', st', h')) from hs)
      exact lv_aload hx hb hd (hl.2.2 (a, _) (mem_prs.mpr ⟨.ref x, hla, rfl⟩)) (kk H locs ls hw hl)
    all_goals (cases hs)
set_option maxHeartbeats 2000000 in
set_option maxRecDepth 100000 in
theorem q_istore_n {p : Program} {l : Launch} {e : Env} {R : Room} {s : State} {m : MethodId} {args : Array Value} {below : List Frame} {meth : Method} {c : Code} {A : Nat → Prop} {H0 : Heap} {cells slots : Nat} {Qf : State → Prop} {D : va_G} {G : GA} {k : Nat} {X : SX} (C : CX k X G D p s m args c R A H0 cells slots) {pc ln op a b : Nat} {v : Value} {ts : List (Int32 × Nat)} {lo lo' : Lo} {st st' : List Value} {h h' : AH} {j : Option Nat} (hs : stp X (pc, ln, op, a, b, v, ts) lo st h = some (.inl (j, lo', st', h'))) {n : Fin 4} (hd : decode (byt k) pc = .ok (.istore_n n, ln)) (hm : mOp k pc ln op a b v ts (.istore_n n) = true) (kk : KKt p l e R s m args below meth c A H0 cells slots Qf D G k h' lo' st' (nxt (pc, ln, op, a, b, v, ts) j)) : KKt p l e R s m args below meth c A H0 cells slots Qf D G k h lo st pc := by
  intro H locs ls hw hl
  obtain ⟨hx, hb, hml, hown, hts, hnw, hK, hR, hA, hX⟩ := C
  obtain ⟨hP, hD, hS, hj⟩ := id hw
  obtain ⟨rfl, ha, rfl, rfl, hn⟩ := of_decide_eq_true hm
  replace hs : s2 a 0 lo st h = _ := hs
  rcases st with _ | ⟨y, st⟩
  · cases hs
  · cases y
    case int x =>
      cases (show some (Sum.inl (none, set1 lo a (.int x), st, h)) = some (Sum.inl (j, lo', st', h')) from hs)
      exact lv_istore_n hx hb hd ha.symm hl hn rfl (fun ls' hl' => kk H locs ls' hw (lvs1 (v := .int x) hl'))
    all_goals (cases hs)
set_option maxHeartbeats 2000000 in
set_option maxRecDepth 100000 in
theorem q_istore {p : Program} {l : Launch} {e : Env} {R : Room} {s : State} {m : MethodId} {args : Array Value} {below : List Frame} {meth : Method} {c : Code} {A : Nat → Prop} {H0 : Heap} {cells slots : Nat} {Qf : State → Prop} {D : va_G} {G : GA} {k : Nat} {X : SX} (C : CX k X G D p s m args c R A H0 cells slots) {pc ln op a b : Nat} {v : Value} {ts : List (Int32 × Nat)} {lo lo' : Lo} {st st' : List Value} {h h' : AH} {j : Option Nat} (hs : stp X (pc, ln, op, a, b, v, ts) lo st h = some (.inl (j, lo', st', h'))) {i : Nat} (hd : decode (byt k) pc = .ok (.istore i, ln)) (hm : mOp k pc ln op a b v ts (.istore i) = true) (kk : KKt p l e R s m args below meth c A H0 cells slots Qf D G k h' lo' st' (nxt (pc, ln, op, a, b, v, ts) j)) : KKt p l e R s m args below meth c A H0 cells slots Qf D G k h lo st pc := by
  intro H locs ls hw hl
  obtain ⟨hx, hb, hml, hown, hts, hnw, hK, hR, hA, hX⟩ := C
  obtain ⟨hP, hD, hS, hj⟩ := id hw
  obtain ⟨rfl, rfl, rfl, rfl, hn⟩ := of_decide_eq_true hm
  replace hs : s2 a 0 lo st h = _ := hs
  rcases st with _ | ⟨y, st⟩
  · cases hs
  · cases y
    case int x =>
      cases (show some (Sum.inl (none, set1 lo a (.int x), st, h)) = some (Sum.inl (j, lo', st', h')) from hs)
      exact lv_istore hx hb hd hl hn rfl (fun ls' hl' => kk H locs ls' hw (lvs1 (v := .int x) hl'))
    all_goals (cases hs)
set_option maxHeartbeats 2000000 in
set_option maxRecDepth 100000 in
theorem q_astore_n {p : Program} {l : Launch} {e : Env} {R : Room} {s : State} {m : MethodId} {args : Array Value} {below : List Frame} {meth : Method} {c : Code} {A : Nat → Prop} {H0 : Heap} {cells slots : Nat} {Qf : State → Prop} {D : va_G} {G : GA} {k : Nat} {X : SX} (C : CX k X G D p s m args c R A H0 cells slots) {pc ln op a b : Nat} {v : Value} {ts : List (Int32 × Nat)} {lo lo' : Lo} {st st' : List Value} {h h' : AH} {j : Option Nat} (hs : stp X (pc, ln, op, a, b, v, ts) lo st h = some (.inl (j, lo', st', h'))) {n : Fin 4} (hd : decode (byt k) pc = .ok (.astore_n n, ln)) (hm : mOp k pc ln op a b v ts (.astore_n n) = true) (kk : KKt p l e R s m args below meth c A H0 cells slots Qf D G k h' lo' st' (nxt (pc, ln, op, a, b, v, ts) j)) : KKt p l e R s m args below meth c A H0 cells slots Qf D G k h lo st pc := by
  intro H locs ls hw hl
  obtain ⟨hx, hb, hml, hown, hts, hnw, hK, hR, hA, hX⟩ := C
  obtain ⟨hP, hD, hS, hj⟩ := id hw
  obtain ⟨rfl, ha, rfl, rfl, hn⟩ := of_decide_eq_true hm
  replace hs : s2 a 2 lo st h = _ := hs
  rcases st with _ | ⟨y, st⟩
  · cases hs
  · cases y
    case ref x =>
      cases (show some (Sum.inl (none, set1 lo a (.ref x), st, h)) = some (Sum.inl (j, lo', st', h')) from hs)
      exact lv_astore_n hx hb hd ha.symm hl hn rfl (fun ls' hl' => kk H locs ls' hw (lvs1 (v := .ref x) hl'))
    all_goals (cases hs)
set_option maxHeartbeats 2000000 in
set_option maxRecDepth 100000 in
theorem q_astore {p : Program} {l : Launch} {e : Env} {R : Room} {s : State} {m : MethodId} {args : Array Value} {below : List Frame} {meth : Method} {c : Code} {A : Nat → Prop} {H0 : Heap} {cells slots : Nat} {Qf : State → Prop} {D : va_G} {G : GA} {k : Nat} {X : SX} (C : CX k X G D p s m args c R A H0 cells slots) {pc ln op a b : Nat} {v : Value} {ts : List (Int32 × Nat)} {lo lo' : Lo} {st st' : List Value} {h h' : AH} {j : Option Nat} (hs : stp X (pc, ln, op, a, b, v, ts) lo st h = some (.inl (j, lo', st', h'))) {i : Nat} (hd : decode (byt k) pc = .ok (.astore i, ln)) (hm : mOp k pc ln op a b v ts (.astore i) = true) (kk : KKt p l e R s m args below meth c A H0 cells slots Qf D G k h' lo' st' (nxt (pc, ln, op, a, b, v, ts) j)) : KKt p l e R s m args below meth c A H0 cells slots Qf D G k h lo st pc := by
  intro H locs ls hw hl
  obtain ⟨hx, hb, hml, hown, hts, hnw, hK, hR, hA, hX⟩ := C
  obtain ⟨hP, hD, hS, hj⟩ := id hw
  obtain ⟨rfl, rfl, rfl, rfl, hn⟩ := of_decide_eq_true hm
  replace hs : s2 a 2 lo st h = _ := hs
  rcases st with _ | ⟨y, st⟩
  · cases hs
  · cases y
    case ref x =>
      cases (show some (Sum.inl (none, set1 lo a (.ref x), st, h)) = some (Sum.inl (j, lo', st', h')) from hs)
      exact lv_astore hx hb hd hl hn rfl (fun ls' hl' => kk H locs ls' hw (lvs1 (v := .ref x) hl'))
    all_goals (cases hs)
set_option maxHeartbeats 2000000 in
set_option maxRecDepth 100000 in
theorem q_lstore_n {p : Program} {l : Launch} {e : Env} {R : Room} {s : State} {m : MethodId} {args : Array Value} {below : List Frame} {meth : Method} {c : Code} {A : Nat → Prop} {H0 : Heap} {cells slots : Nat} {Qf : State → Prop} {D : va_G} {G : GA} {k : Nat} {X : SX} (C : CX k X G D p s m args c R A H0 cells slots) {pc ln op a b : Nat} {v : Value} {ts : List (Int32 × Nat)} {lo lo' : Lo} {st st' : List Value} {h h' : AH} {j : Option Nat} (hs : stp X (pc, ln, op, a, b, v, ts) lo st h = some (.inl (j, lo', st', h'))) {n : Fin 4} (hd : decode (byt k) pc = .ok (.lstore_n n, ln)) (hm : mOp k pc ln op a b v ts (.lstore_n n) = true) (kk : KKt p l e R s m args below meth c A H0 cells slots Qf D G k h' lo' st' (nxt (pc, ln, op, a, b, v, ts) j)) : KKt p l e R s m args below meth c A H0 cells slots Qf D G k h lo st pc := by
  intro H locs ls hw hl
  obtain ⟨hx, hb, hml, hown, hts, hnw, hK, hR, hA, hX⟩ := C
  obtain ⟨hP, hD, hS, hj⟩ := id hw
  obtain ⟨rfl, ha, rfl, hn⟩ := of_decide_eq_true hm
  replace hs : s3 a lo st h = _ := hs
  rcases st with _ | ⟨y, st⟩
  · cases hs
  · cases y
    case long x =>
      cases (show some (Sum.inl (none, set2 lo a (.long x), st, h)) = some (Sum.inl (j, lo', st', h')) from hs)
      exact lv_lstore_n hx hb hd ha.symm hl hn rfl (fun ls' hl' => kk H locs ls' hw (lvs2 (v := .long x) hl'))
    all_goals (cases hs)
set_option maxHeartbeats 2000000 in
set_option maxRecDepth 100000 in
theorem q_lstore {p : Program} {l : Launch} {e : Env} {R : Room} {s : State} {m : MethodId} {args : Array Value} {below : List Frame} {meth : Method} {c : Code} {A : Nat → Prop} {H0 : Heap} {cells slots : Nat} {Qf : State → Prop} {D : va_G} {G : GA} {k : Nat} {X : SX} (C : CX k X G D p s m args c R A H0 cells slots) {pc ln op a b : Nat} {v : Value} {ts : List (Int32 × Nat)} {lo lo' : Lo} {st st' : List Value} {h h' : AH} {j : Option Nat} (hs : stp X (pc, ln, op, a, b, v, ts) lo st h = some (.inl (j, lo', st', h'))) {i : Nat} (hd : decode (byt k) pc = .ok (.lstore i, ln)) (hm : mOp k pc ln op a b v ts (.lstore i) = true) (kk : KKt p l e R s m args below meth c A H0 cells slots Qf D G k h' lo' st' (nxt (pc, ln, op, a, b, v, ts) j)) : KKt p l e R s m args below meth c A H0 cells slots Qf D G k h lo st pc := by
  intro H locs ls hw hl
  obtain ⟨hx, hb, hml, hown, hts, hnw, hK, hR, hA, hX⟩ := C
  obtain ⟨hP, hD, hS, hj⟩ := id hw
  obtain ⟨rfl, rfl, rfl, hn⟩ := of_decide_eq_true hm
  replace hs : s3 a lo st h = _ := hs
  rcases st with _ | ⟨y, st⟩
  · cases hs
  · cases y
    case long x =>
      cases (show some (Sum.inl (none, set2 lo a (.long x), st, h)) = some (Sum.inl (j, lo', st', h')) from hs)
      exact lv_lstore hx hb hd hl hn rfl (fun ls' hl' => kk H locs ls' hw (lvs2 (v := .long x) hl'))
    all_goals (cases hs)
set_option maxHeartbeats 2000000 in
set_option maxRecDepth 100000 in
theorem q_iinc {p : Program} {l : Launch} {e : Env} {R : Room} {s : State} {m : MethodId} {args : Array Value} {below : List Frame} {meth : Method} {c : Code} {A : Nat → Prop} {H0 : Heap} {cells slots : Nat} {Qf : State → Prop} {D : va_G} {G : GA} {k : Nat} {X : SX} (C : CX k X G D p s m args c R A H0 cells slots) {pc ln op a b : Nat} {v : Value} {ts : List (Int32 × Nat)} {lo lo' : Lo} {st st' : List Value} {h h' : AH} {j : Option Nat} (hs : stp X (pc, ln, op, a, b, v, ts) lo st h = some (.inl (j, lo', st', h'))) {i : Nat} {n : Int} (hd : decode (byt k) pc = .ok (.iinc i n, ln)) (hm : mOp k pc ln op a b v ts (.iinc i n) = true) (kk : KKt p l e R s m args below meth c A H0 cells slots Qf D G k h' lo' st' (nxt (pc, ln, op, a, b, v, ts) j)) : KKt p l e R s m args below meth c A H0 cells slots Qf D G k h lo st pc := by
  intro H locs ls hw hl
  obtain ⟨hx, hb, hml, hown, hts, hnw, hK, hR, hA, hX⟩ := C
  obtain ⟨hP, hD, hS, hj⟩ := id hw
  obtain ⟨rfl, rfl, rfl, rfl, hn⟩ := of_decide_eq_true hm
  replace hs : s4 a (.int (Int32.ofInt n)) lo st h = _ := hs
  unfold s4 at hs
  rcases hla : lo[a]? with _ | _ | y
  · rw [hla] at hs; cases hs
  · rw [hla] at hs; cases hs
  · rw [hla] at hs
    cases y
    case int x =>
      cases (show some (Sum.inl (none, set1 lo a (.int (x + Int32.ofInt n)), st, h)) = some (Sum.inl (j, lo', st', h')) from hs)
      obtain ⟨kx, hkx⟩ := List.mem_iff_getElem?.mp (mem_prs.mpr ⟨.int x, hla, rfl⟩ : (a, _) ∈ prs G.1 lo)
      exact lv_iinc hx hb hd hl hkx rfl hn rfl (fun ls' hl' => kk H locs ls' hw (lvs1 (v := .int (x + Int32.ofInt n)) hl'))
    all_goals (cases hs)
set_option maxHeartbeats 2000000 in
set_option maxRecDepth 100000 in
theorem q_iadd {p : Program} {l : Launch} {e : Env} {R : Room} {s : State} {m : MethodId} {args : Array Value} {below : List Frame} {meth : Method} {c : Code} {A : Nat → Prop} {H0 : Heap} {cells slots : Nat} {Qf : State → Prop} {D : va_G} {G : GA} {k : Nat} {X : SX} (C : CX k X G D p s m args c R A H0 cells slots) {pc ln op a b : Nat} {v : Value} {ts : List (Int32 × Nat)} {lo lo' : Lo} {st st' : List Value} {h h' : AH} {j : Option Nat} (hs : stp X (pc, ln, op, a, b, v, ts) lo st h = some (.inl (j, lo', st', h')))  (hd : decode (byt k) pc = .ok (.iadd, ln)) (hm : mOp k pc ln op a b v ts (.iadd) = true) (kk : KKt p l e R s m args below meth c A H0 cells slots Qf D G k h' lo' st' (nxt (pc, ln, op, a, b, v, ts) j)) : KKt p l e R s m args below meth c A H0 cells slots Qf D G k h lo st pc := by
  intro H locs ls hw hl
  obtain ⟨hx, hb, hml, hown, hts, hnw, hK, hR, hA, hX⟩ := C
  obtain ⟨hP, hD, hS, hj⟩ := id hw
  obtain ⟨rfl, rfl, rfl⟩ := of_decide_eq_true hm
  rcases st with _ | ⟨y1, st⟩
  · cases hs
  rcases st with _ | ⟨y2, st⟩
  · cases y1 <;> cases hs
  cases y1
  case int y =>
    cases y2
    case int x =>
      cases (show some (Sum.inl (none, lo, (Value.int (x + y)) :: st, h)) = some (Sum.inl (j, lo', st', h')) from hs)
      exact lv_iadd hx hb hd (kk H locs ls hw hl)
    all_goals (cases hs)
  all_goals (cases y2 <;> cases hs)
set_option maxHeartbeats 2000000 in
set_option maxRecDepth 100000 in
theorem q_isub {p : Program} {l : Launch} {e : Env} {R : Room} {s : State} {m : MethodId} {args : Array Value} {below : List Frame} {meth : Method} {c : Code} {A : Nat → Prop} {H0 : Heap} {cells slots : Nat} {Qf : State → Prop} {D : va_G} {G : GA} {k : Nat} {X : SX} (C : CX k X G D p s m args c R A H0 cells slots) {pc ln op a b : Nat} {v : Value} {ts : List (Int32 × Nat)} {lo lo' : Lo} {st st' : List Value} {h h' : AH} {j : Option Nat} (hs : stp X (pc, ln, op, a, b, v, ts) lo st h = some (.inl (j, lo', st', h')))  (hd : decode (byt k) pc = .ok (.isub, ln)) (hm : mOp k pc ln op a b v ts (.isub) = true) (kk : KKt p l e R s m args below meth c A H0 cells slots Qf D G k h' lo' st' (nxt (pc, ln, op, a, b, v, ts) j)) : KKt p l e R s m args below meth c A H0 cells slots Qf D G k h lo st pc := by
  intro H locs ls hw hl
  obtain ⟨hx, hb, hml, hown, hts, hnw, hK, hR, hA, hX⟩ := C
  obtain ⟨hP, hD, hS, hj⟩ := id hw
  obtain ⟨rfl, rfl, rfl⟩ := of_decide_eq_true hm
  rcases st with _ | ⟨y1, st⟩
  · cases hs
  rcases st with _ | ⟨y2, st⟩
  · cases y1 <;> cases hs
  cases y1
  case int y =>
    cases y2
    case int x =>
      cases (show some (Sum.inl (none, lo, (Value.int (x - y)) :: st, h)) = some (Sum.inl (j, lo', st', h')) from hs)
      exact lv_isub hx hb hd (kk H locs ls hw hl)
    all_goals (cases hs)
  all_goals (cases y2 <;> cases hs)
set_option maxHeartbeats 2000000 in
set_option maxRecDepth 100000 in
theorem q_imul {p : Program} {l : Launch} {e : Env} {R : Room} {s : State} {m : MethodId} {args : Array Value} {below : List Frame} {meth : Method} {c : Code} {A : Nat → Prop} {H0 : Heap} {cells slots : Nat} {Qf : State → Prop} {D : va_G} {G : GA} {k : Nat} {X : SX} (C : CX k X G D p s m args c R A H0 cells slots) {pc ln op a b : Nat} {v : Value} {ts : List (Int32 × Nat)} {lo lo' : Lo} {st st' : List Value} {h h' : AH} {j : Option Nat} (hs : stp X (pc, ln, op, a, b, v, ts) lo st h = some (.inl (j, lo', st', h')))  (hd : decode (byt k) pc = .ok (.imul, ln)) (hm : mOp k pc ln op a b v ts (.imul) = true) (kk : KKt p l e R s m args below meth c A H0 cells slots Qf D G k h' lo' st' (nxt (pc, ln, op, a, b, v, ts) j)) : KKt p l e R s m args below meth c A H0 cells slots Qf D G k h lo st pc := by
  intro H locs ls hw hl
  obtain ⟨hx, hb, hml, hown, hts, hnw, hK, hR, hA, hX⟩ := C
  obtain ⟨hP, hD, hS, hj⟩ := id hw
  obtain ⟨rfl, rfl, rfl⟩ := of_decide_eq_true hm
  rcases st with _ | ⟨y1, st⟩
  · cases hs
  rcases st with _ | ⟨y2, st⟩
  · cases y1 <;> cases hs
  cases y1
  case int y =>
    cases y2
    case int x =>
      cases (show some (Sum.inl (none, lo, (Value.int (x * y)) :: st, h)) = some (Sum.inl (j, lo', st', h')) from hs)
      exact lv_imul hx hb hd (kk H locs ls hw hl)
    all_goals (cases hs)
  all_goals (cases y2 <;> cases hs)
set_option maxHeartbeats 2000000 in
set_option maxRecDepth 100000 in
theorem q_iand {p : Program} {l : Launch} {e : Env} {R : Room} {s : State} {m : MethodId} {args : Array Value} {below : List Frame} {meth : Method} {c : Code} {A : Nat → Prop} {H0 : Heap} {cells slots : Nat} {Qf : State → Prop} {D : va_G} {G : GA} {k : Nat} {X : SX} (C : CX k X G D p s m args c R A H0 cells slots) {pc ln op a b : Nat} {v : Value} {ts : List (Int32 × Nat)} {lo lo' : Lo} {st st' : List Value} {h h' : AH} {j : Option Nat} (hs : stp X (pc, ln, op, a, b, v, ts) lo st h = some (.inl (j, lo', st', h')))  (hd : decode (byt k) pc = .ok (.iand, ln)) (hm : mOp k pc ln op a b v ts (.iand) = true) (kk : KKt p l e R s m args below meth c A H0 cells slots Qf D G k h' lo' st' (nxt (pc, ln, op, a, b, v, ts) j)) : KKt p l e R s m args below meth c A H0 cells slots Qf D G k h lo st pc := by
  intro H locs ls hw hl
  obtain ⟨hx, hb, hml, hown, hts, hnw, hK, hR, hA, hX⟩ := C
  obtain ⟨hP, hD, hS, hj⟩ := id hw
  obtain ⟨rfl, rfl, rfl⟩ := of_decide_eq_true hm
  rcases st with _ | ⟨y1, st⟩
  · cases hs
  rcases st with _ | ⟨y2, st⟩
  · cases y1 <;> cases hs
  cases y1
  case int y =>
    cases y2
    case int x =>
      cases (show some (Sum.inl (none, lo, (Value.int (x &&& y)) :: st, h)) = some (Sum.inl (j, lo', st', h')) from hs)
      exact lv_iand hx hb hd (kk H locs ls hw hl)
    all_goals (cases hs)
  all_goals (cases y2 <;> cases hs)
set_option maxHeartbeats 2000000 in
set_option maxRecDepth 100000 in
theorem q_ior {p : Program} {l : Launch} {e : Env} {R : Room} {s : State} {m : MethodId} {args : Array Value} {below : List Frame} {meth : Method} {c : Code} {A : Nat → Prop} {H0 : Heap} {cells slots : Nat} {Qf : State → Prop} {D : va_G} {G : GA} {k : Nat} {X : SX} (C : CX k X G D p s m args c R A H0 cells slots) {pc ln op a b : Nat} {v : Value} {ts : List (Int32 × Nat)} {lo lo' : Lo} {st st' : List Value} {h h' : AH} {j : Option Nat} (hs : stp X (pc, ln, op, a, b, v, ts) lo st h = some (.inl (j, lo', st', h')))  (hd : decode (byt k) pc = .ok (.ior, ln)) (hm : mOp k pc ln op a b v ts (.ior) = true) (kk : KKt p l e R s m args below meth c A H0 cells slots Qf D G k h' lo' st' (nxt (pc, ln, op, a, b, v, ts) j)) : KKt p l e R s m args below meth c A H0 cells slots Qf D G k h lo st pc := by
  intro H locs ls hw hl
  obtain ⟨hx, hb, hml, hown, hts, hnw, hK, hR, hA, hX⟩ := C
  obtain ⟨hP, hD, hS, hj⟩ := id hw
  obtain ⟨rfl, rfl, rfl⟩ := of_decide_eq_true hm
  rcases st with _ | ⟨y1, st⟩
  · cases hs
  rcases st with _ | ⟨y2, st⟩
  · cases y1 <;> cases hs
  cases y1
  case int y =>
    cases y2
    case int x =>
      cases (show some (Sum.inl (none, lo, (Value.int (x ||| y)) :: st, h)) = some (Sum.inl (j, lo', st', h')) from hs)
      exact lv_ior hx hb hd (kk H locs ls hw hl)
    all_goals (cases hs)
  all_goals (cases y2 <;> cases hs)
set_option maxHeartbeats 2000000 in
set_option maxRecDepth 100000 in
theorem q_ixor {p : Program} {l : Launch} {e : Env} {R : Room} {s : State} {m : MethodId} {args : Array Value} {below : List Frame} {meth : Method} {c : Code} {A : Nat → Prop} {H0 : Heap} {cells slots : Nat} {Qf : State → Prop} {D : va_G} {G : GA} {k : Nat} {X : SX} (C : CX k X G D p s m args c R A H0 cells slots) {pc ln op a b : Nat} {v : Value} {ts : List (Int32 × Nat)} {lo lo' : Lo} {st st' : List Value} {h h' : AH} {j : Option Nat} (hs : stp X (pc, ln, op, a, b, v, ts) lo st h = some (.inl (j, lo', st', h')))  (hd : decode (byt k) pc = .ok (.ixor, ln)) (hm : mOp k pc ln op a b v ts (.ixor) = true) (kk : KKt p l e R s m args below meth c A H0 cells slots Qf D G k h' lo' st' (nxt (pc, ln, op, a, b, v, ts) j)) : KKt p l e R s m args below meth c A H0 cells slots Qf D G k h lo st pc := by
  intro H locs ls hw hl
  obtain ⟨hx, hb, hml, hown, hts, hnw, hK, hR, hA, hX⟩ := C
  obtain ⟨hP, hD, hS, hj⟩ := id hw
  obtain ⟨rfl, rfl, rfl⟩ := of_decide_eq_true hm
  rcases st with _ | ⟨y1, st⟩
  · cases hs
  rcases st with _ | ⟨y2, st⟩
  · cases y1 <;> cases hs
  cases y1
  case int y =>
    cases y2
    case int x =>
      cases (show some (Sum.inl (none, lo, (Value.int (x ^^^ y)) :: st, h)) = some (Sum.inl (j, lo', st', h')) from hs)
      exact lv_ixor hx hb hd (kk H locs ls hw hl)
    all_goals (cases hs)
  all_goals (cases y2 <;> cases hs)
set_option maxHeartbeats 2000000 in
set_option maxRecDepth 100000 in
theorem q_ishl {p : Program} {l : Launch} {e : Env} {R : Room} {s : State} {m : MethodId} {args : Array Value} {below : List Frame} {meth : Method} {c : Code} {A : Nat → Prop} {H0 : Heap} {cells slots : Nat} {Qf : State → Prop} {D : va_G} {G : GA} {k : Nat} {X : SX} (C : CX k X G D p s m args c R A H0 cells slots) {pc ln op a b : Nat} {v : Value} {ts : List (Int32 × Nat)} {lo lo' : Lo} {st st' : List Value} {h h' : AH} {j : Option Nat} (hs : stp X (pc, ln, op, a, b, v, ts) lo st h = some (.inl (j, lo', st', h')))  (hd : decode (byt k) pc = .ok (.ishl, ln)) (hm : mOp k pc ln op a b v ts (.ishl) = true) (kk : KKt p l e R s m args below meth c A H0 cells slots Qf D G k h' lo' st' (nxt (pc, ln, op, a, b, v, ts) j)) : KKt p l e R s m args below meth c A H0 cells slots Qf D G k h lo st pc := by
  intro H locs ls hw hl
  obtain ⟨hx, hb, hml, hown, hts, hnw, hK, hR, hA, hX⟩ := C
  obtain ⟨hP, hD, hS, hj⟩ := id hw
  obtain ⟨rfl, rfl, rfl⟩ := of_decide_eq_true hm
  rcases st with _ | ⟨y1, st⟩
  · cases hs
  rcases st with _ | ⟨y2, st⟩
  · cases y1 <;> cases hs
  cases y1
  case int y =>
    cases y2
    case int x =>
      cases (show some (Sum.inl (none, lo, (Value.int (x <<< (y &&& 31))) :: st, h)) = some (Sum.inl (j, lo', st', h')) from hs)
      exact lv_ishl hx hb hd (kk H locs ls hw hl)
    all_goals (cases hs)
  all_goals (cases y2 <;> cases hs)
set_option maxHeartbeats 2000000 in
set_option maxRecDepth 100000 in
theorem q_ishr {p : Program} {l : Launch} {e : Env} {R : Room} {s : State} {m : MethodId} {args : Array Value} {below : List Frame} {meth : Method} {c : Code} {A : Nat → Prop} {H0 : Heap} {cells slots : Nat} {Qf : State → Prop} {D : va_G} {G : GA} {k : Nat} {X : SX} (C : CX k X G D p s m args c R A H0 cells slots) {pc ln op a b : Nat} {v : Value} {ts : List (Int32 × Nat)} {lo lo' : Lo} {st st' : List Value} {h h' : AH} {j : Option Nat} (hs : stp X (pc, ln, op, a, b, v, ts) lo st h = some (.inl (j, lo', st', h')))  (hd : decode (byt k) pc = .ok (.ishr, ln)) (hm : mOp k pc ln op a b v ts (.ishr) = true) (kk : KKt p l e R s m args below meth c A H0 cells slots Qf D G k h' lo' st' (nxt (pc, ln, op, a, b, v, ts) j)) : KKt p l e R s m args below meth c A H0 cells slots Qf D G k h lo st pc := by
  intro H locs ls hw hl
  obtain ⟨hx, hb, hml, hown, hts, hnw, hK, hR, hA, hX⟩ := C
  obtain ⟨hP, hD, hS, hj⟩ := id hw
  obtain ⟨rfl, rfl, rfl⟩ := of_decide_eq_true hm
  rcases st with _ | ⟨y1, st⟩
  · cases hs
  rcases st with _ | ⟨y2, st⟩
  · cases y1 <;> cases hs
  cases y1
  case int y =>
    cases y2
    case int x =>
      cases (show some (Sum.inl (none, lo, (Value.int (x >>> (y &&& 31))) :: st, h)) = some (Sum.inl (j, lo', st', h')) from hs)
      exact lv_ishr hx hb hd (kk H locs ls hw hl)
    all_goals (cases hs)
  all_goals (cases y2 <;> cases hs)
set_option maxHeartbeats 2000000 in
set_option maxRecDepth 100000 in
theorem q_iushr {p : Program} {l : Launch} {e : Env} {R : Room} {s : State} {m : MethodId} {args : Array Value} {below : List Frame} {meth : Method} {c : Code} {A : Nat → Prop} {H0 : Heap} {cells slots : Nat} {Qf : State → Prop} {D : va_G} {G : GA} {k : Nat} {X : SX} (C : CX k X G D p s m args c R A H0 cells slots) {pc ln op a b : Nat} {v : Value} {ts : List (Int32 × Nat)} {lo lo' : Lo} {st st' : List Value} {h h' : AH} {j : Option Nat} (hs : stp X (pc, ln, op, a, b, v, ts) lo st h = some (.inl (j, lo', st', h')))  (hd : decode (byt k) pc = .ok (.iushr, ln)) (hm : mOp k pc ln op a b v ts (.iushr) = true) (kk : KKt p l e R s m args below meth c A H0 cells slots Qf D G k h' lo' st' (nxt (pc, ln, op, a, b, v, ts) j)) : KKt p l e R s m args below meth c A H0 cells slots Qf D G k h lo st pc := by
  intro H locs ls hw hl
  obtain ⟨hx, hb, hml, hown, hts, hnw, hK, hR, hA, hX⟩ := C
  obtain ⟨hP, hD, hS, hj⟩ := id hw
  obtain ⟨rfl, rfl, rfl⟩ := of_decide_eq_true hm
  rcases st with _ | ⟨y1, st⟩
  · cases hs
  rcases st with _ | ⟨y2, st⟩
  · cases y1 <;> cases hs
  cases y1
  case int y =>
    cases y2
    case int x =>
      cases (show some (Sum.inl (none, lo, (Value.int ((x.toUInt32 >>> (y.toUInt32 &&& Int32.toUInt32 31)).toInt32)) :: st, h)) = some (Sum.inl (j, lo', st', h')) from hs)
      exact lv_iushr hx hb hd rfl (kk H locs ls hw hl)
    all_goals (cases hs)
  all_goals (cases y2 <;> cases hs)
set_option maxHeartbeats 2000000 in
set_option maxRecDepth 100000 in
theorem q_idiv {p : Program} {l : Launch} {e : Env} {R : Room} {s : State} {m : MethodId} {args : Array Value} {below : List Frame} {meth : Method} {c : Code} {A : Nat → Prop} {H0 : Heap} {cells slots : Nat} {Qf : State → Prop} {D : va_G} {G : GA} {k : Nat} {X : SX} (C : CX k X G D p s m args c R A H0 cells slots) {pc ln op a b : Nat} {v : Value} {ts : List (Int32 × Nat)} {lo lo' : Lo} {st st' : List Value} {h h' : AH} {j : Option Nat} (hs : stp X (pc, ln, op, a, b, v, ts) lo st h = some (.inl (j, lo', st', h')))  (hd : decode (byt k) pc = .ok (.idiv, ln)) (hm : mOp k pc ln op a b v ts (.idiv) = true) (kk : KKt p l e R s m args below meth c A H0 cells slots Qf D G k h' lo' st' (nxt (pc, ln, op, a, b, v, ts) j)) : KKt p l e R s m args below meth c A H0 cells slots Qf D G k h lo st pc := by
  intro H locs ls hw hl
  obtain ⟨hx, hb, hml, hown, hts, hnw, hK, hR, hA, hX⟩ := C
  obtain ⟨hP, hD, hS, hj⟩ := id hw
  obtain ⟨rfl, rfl, rfl⟩ := of_decide_eq_true hm
  rcases st with _ | ⟨y1, st⟩
  · cases hs
  rcases st with _ | ⟨y2, st⟩
  · cases y1 <;> cases hs
  cases y1
  case int y =>
    cases y2
    case int x =>
      replace hs : (if y = 0 then none else nx lo (.int (x / y) :: st) h) = some (Sum.inl (j, lo', st', h')) := hs
      by_cases hy : y = 0
      · rw [if_pos hy] at hs; cases hs
      · rw [if_neg hy] at hs
        cases (show some (Sum.inl (none, lo, (Value.int (x / y)) :: st, h)) = some (Sum.inl (j, lo', st', h')) from hs)
        exact lv_idiv hx hb hd hy (kk H locs ls hw hl)
    all_goals (cases hs)
  all_goals (cases y2 <;> cases hs)
set_option maxHeartbeats 2000000 in
set_option maxRecDepth 100000 in
theorem q_irem {p : Program} {l : Launch} {e : Env} {R : Room} {s : State} {m : MethodId} {args : Array Value} {below : List Frame} {meth : Method} {c : Code} {A : Nat → Prop} {H0 : Heap} {cells slots : Nat} {Qf : State → Prop} {D : va_G} {G : GA} {k : Nat} {X : SX} (C : CX k X G D p s m args c R A H0 cells slots) {pc ln op a b : Nat} {v : Value} {ts : List (Int32 × Nat)} {lo lo' : Lo} {st st' : List Value} {h h' : AH} {j : Option Nat} (hs : stp X (pc, ln, op, a, b, v, ts) lo st h = some (.inl (j, lo', st', h')))  (hd : decode (byt k) pc = .ok (.irem, ln)) (hm : mOp k pc ln op a b v ts (.irem) = true) (kk : KKt p l e R s m args below meth c A H0 cells slots Qf D G k h' lo' st' (nxt (pc, ln, op, a, b, v, ts) j)) : KKt p l e R s m args below meth c A H0 cells slots Qf D G k h lo st pc := by
  intro H locs ls hw hl
  obtain ⟨hx, hb, hml, hown, hts, hnw, hK, hR, hA, hX⟩ := C
  obtain ⟨hP, hD, hS, hj⟩ := id hw
  obtain ⟨rfl, rfl, rfl⟩ := of_decide_eq_true hm
  rcases st with _ | ⟨y1, st⟩
  · cases hs
  rcases st with _ | ⟨y2, st⟩
  · cases y1 <;> cases hs
  cases y1
  case int y =>
    cases y2
    case int x =>
      replace hs : (if y = 0 then none else nx lo (.int (x - x / y * y) :: st) h) = some (Sum.inl (j, lo', st', h')) := hs
      by_cases hy : y = 0
      · rw [if_pos hy] at hs; cases hs
      · rw [if_neg hy] at hs
        cases (show some (Sum.inl (none, lo, (Value.int (x - x / y * y)) :: st, h)) = some (Sum.inl (j, lo', st', h')) from hs)
        exact lv_irem hx hb hd hy (kk H locs ls hw hl)
    all_goals (cases hs)
  all_goals (cases y2 <;> cases hs)
set_option maxHeartbeats 2000000 in
set_option maxRecDepth 100000 in
theorem q_ladd {p : Program} {l : Launch} {e : Env} {R : Room} {s : State} {m : MethodId} {args : Array Value} {below : List Frame} {meth : Method} {c : Code} {A : Nat → Prop} {H0 : Heap} {cells slots : Nat} {Qf : State → Prop} {D : va_G} {G : GA} {k : Nat} {X : SX} (C : CX k X G D p s m args c R A H0 cells slots) {pc ln op a b : Nat} {v : Value} {ts : List (Int32 × Nat)} {lo lo' : Lo} {st st' : List Value} {h h' : AH} {j : Option Nat} (hs : stp X (pc, ln, op, a, b, v, ts) lo st h = some (.inl (j, lo', st', h')))  (hd : decode (byt k) pc = .ok (.ladd, ln)) (hm : mOp k pc ln op a b v ts (.ladd) = true) (kk : KKt p l e R s m args below meth c A H0 cells slots Qf D G k h' lo' st' (nxt (pc, ln, op, a, b, v, ts) j)) : KKt p l e R s m args below meth c A H0 cells slots Qf D G k h lo st pc := by
  intro H locs ls hw hl
  obtain ⟨hx, hb, hml, hown, hts, hnw, hK, hR, hA, hX⟩ := C
  obtain ⟨hP, hD, hS, hj⟩ := id hw
  obtain ⟨rfl, rfl, rfl⟩ := of_decide_eq_true hm
  rcases st with _ | ⟨y1, st⟩
  · cases hs
  rcases st with _ | ⟨y2, st⟩
  · cases y1 <;> cases hs
  cases y1
  case long y =>
    cases y2
    case long x =>
      cases (show some (Sum.inl (none, lo, (Value.long (x + y)) :: st, h)) = some (Sum.inl (j, lo', st', h')) from hs)
      exact lv_ladd hx hb hd (kk H locs ls hw hl)
    all_goals (cases hs)
  all_goals (cases y2 <;> cases hs)
set_option maxHeartbeats 2000000 in
set_option maxRecDepth 100000 in
theorem q_lsub {p : Program} {l : Launch} {e : Env} {R : Room} {s : State} {m : MethodId} {args : Array Value} {below : List Frame} {meth : Method} {c : Code} {A : Nat → Prop} {H0 : Heap} {cells slots : Nat} {Qf : State → Prop} {D : va_G} {G : GA} {k : Nat} {X : SX} (C : CX k X G D p s m args c R A H0 cells slots) {pc ln op a b : Nat} {v : Value} {ts : List (Int32 × Nat)} {lo lo' : Lo} {st st' : List Value} {h h' : AH} {j : Option Nat} (hs : stp X (pc, ln, op, a, b, v, ts) lo st h = some (.inl (j, lo', st', h')))  (hd : decode (byt k) pc = .ok (.lsub, ln)) (hm : mOp k pc ln op a b v ts (.lsub) = true) (kk : KKt p l e R s m args below meth c A H0 cells slots Qf D G k h' lo' st' (nxt (pc, ln, op, a, b, v, ts) j)) : KKt p l e R s m args below meth c A H0 cells slots Qf D G k h lo st pc := by
  intro H locs ls hw hl
  obtain ⟨hx, hb, hml, hown, hts, hnw, hK, hR, hA, hX⟩ := C
  obtain ⟨hP, hD, hS, hj⟩ := id hw
  obtain ⟨rfl, rfl, rfl⟩ := of_decide_eq_true hm
  rcases st with _ | ⟨y1, st⟩
  · cases hs
  rcases st with _ | ⟨y2, st⟩
  · cases y1 <;> cases hs
  cases y1
  case long y =>
    cases y2
    case long x =>
      cases (show some (Sum.inl (none, lo, (Value.long (x - y)) :: st, h)) = some (Sum.inl (j, lo', st', h')) from hs)
      exact lv_lsub hx hb hd (kk H locs ls hw hl)
    all_goals (cases hs)
  all_goals (cases y2 <;> cases hs)
set_option maxHeartbeats 2000000 in
set_option maxRecDepth 100000 in
theorem q_lmul {p : Program} {l : Launch} {e : Env} {R : Room} {s : State} {m : MethodId} {args : Array Value} {below : List Frame} {meth : Method} {c : Code} {A : Nat → Prop} {H0 : Heap} {cells slots : Nat} {Qf : State → Prop} {D : va_G} {G : GA} {k : Nat} {X : SX} (C : CX k X G D p s m args c R A H0 cells slots) {pc ln op a b : Nat} {v : Value} {ts : List (Int32 × Nat)} {lo lo' : Lo} {st st' : List Value} {h h' : AH} {j : Option Nat} (hs : stp X (pc, ln, op, a, b, v, ts) lo st h = some (.inl (j, lo', st', h')))  (hd : decode (byt k) pc = .ok (.lmul, ln)) (hm : mOp k pc ln op a b v ts (.lmul) = true) (kk : KKt p l e R s m args below meth c A H0 cells slots Qf D G k h' lo' st' (nxt (pc, ln, op, a, b, v, ts) j)) : KKt p l e R s m args below meth c A H0 cells slots Qf D G k h lo st pc := by
  intro H locs ls hw hl
  obtain ⟨hx, hb, hml, hown, hts, hnw, hK, hR, hA, hX⟩ := C
  obtain ⟨hP, hD, hS, hj⟩ := id hw
  obtain ⟨rfl, rfl, rfl⟩ := of_decide_eq_true hm
  rcases st with _ | ⟨y1, st⟩
  · cases hs
  rcases st with _ | ⟨y2, st⟩
  · cases y1 <;> cases hs
  cases y1
  case long y =>
    cases y2
    case long x =>
      cases (show some (Sum.inl (none, lo, (Value.long (x * y)) :: st, h)) = some (Sum.inl (j, lo', st', h')) from hs)
      exact lv_lmul hx hb hd (kk H locs ls hw hl)
    all_goals (cases hs)
  all_goals (cases y2 <;> cases hs)
set_option maxHeartbeats 2000000 in
set_option maxRecDepth 100000 in
theorem q_land {p : Program} {l : Launch} {e : Env} {R : Room} {s : State} {m : MethodId} {args : Array Value} {below : List Frame} {meth : Method} {c : Code} {A : Nat → Prop} {H0 : Heap} {cells slots : Nat} {Qf : State → Prop} {D : va_G} {G : GA} {k : Nat} {X : SX} (C : CX k X G D p s m args c R A H0 cells slots) {pc ln op a b : Nat} {v : Value} {ts : List (Int32 × Nat)} {lo lo' : Lo} {st st' : List Value} {h h' : AH} {j : Option Nat} (hs : stp X (pc, ln, op, a, b, v, ts) lo st h = some (.inl (j, lo', st', h')))  (hd : decode (byt k) pc = .ok (.land, ln)) (hm : mOp k pc ln op a b v ts (.land) = true) (kk : KKt p l e R s m args below meth c A H0 cells slots Qf D G k h' lo' st' (nxt (pc, ln, op, a, b, v, ts) j)) : KKt p l e R s m args below meth c A H0 cells slots Qf D G k h lo st pc := by
  intro H locs ls hw hl
  obtain ⟨hx, hb, hml, hown, hts, hnw, hK, hR, hA, hX⟩ := C
  obtain ⟨hP, hD, hS, hj⟩ := id hw
  obtain ⟨rfl, rfl, rfl⟩ := of_decide_eq_true hm
  rcases st with _ | ⟨y1, st⟩
  · cases hs
  rcases st with _ | ⟨y2, st⟩
  · cases y1 <;> cases hs
  cases y1
  case long y =>
    cases y2
    case long x =>
      cases (show some (Sum.inl (none, lo, (Value.long (x &&& y)) :: st, h)) = some (Sum.inl (j, lo', st', h')) from hs)
      exact lv_land hx hb hd (kk H locs ls hw hl)
    all_goals (cases hs)
  all_goals (cases y2 <;> cases hs)
set_option maxHeartbeats 2000000 in
set_option maxRecDepth 100000 in
theorem q_lor {p : Program} {l : Launch} {e : Env} {R : Room} {s : State} {m : MethodId} {args : Array Value} {below : List Frame} {meth : Method} {c : Code} {A : Nat → Prop} {H0 : Heap} {cells slots : Nat} {Qf : State → Prop} {D : va_G} {G : GA} {k : Nat} {X : SX} (C : CX k X G D p s m args c R A H0 cells slots) {pc ln op a b : Nat} {v : Value} {ts : List (Int32 × Nat)} {lo lo' : Lo} {st st' : List Value} {h h' : AH} {j : Option Nat} (hs : stp X (pc, ln, op, a, b, v, ts) lo st h = some (.inl (j, lo', st', h')))  (hd : decode (byt k) pc = .ok (.lor, ln)) (hm : mOp k pc ln op a b v ts (.lor) = true) (kk : KKt p l e R s m args below meth c A H0 cells slots Qf D G k h' lo' st' (nxt (pc, ln, op, a, b, v, ts) j)) : KKt p l e R s m args below meth c A H0 cells slots Qf D G k h lo st pc := by
  intro H locs ls hw hl
  obtain ⟨hx, hb, hml, hown, hts, hnw, hK, hR, hA, hX⟩ := C
  obtain ⟨hP, hD, hS, hj⟩ := id hw
  obtain ⟨rfl, rfl, rfl⟩ := of_decide_eq_true hm
  rcases st with _ | ⟨y1, st⟩
  · cases hs
  rcases st with _ | ⟨y2, st⟩
  · cases y1 <;> cases hs
  cases y1
  case long y =>
    cases y2
    case long x =>
      cases (show some (Sum.inl (none, lo, (Value.long (x ||| y)) :: st, h)) = some (Sum.inl (j, lo', st', h')) from hs)
      exact lv_lor hx hb hd (kk H locs ls hw hl)
    all_goals (cases hs)
  all_goals (cases y2 <;> cases hs)
set_option maxHeartbeats 2000000 in
set_option maxRecDepth 100000 in
theorem q_lxor {p : Program} {l : Launch} {e : Env} {R : Room} {s : State} {m : MethodId} {args : Array Value} {below : List Frame} {meth : Method} {c : Code} {A : Nat → Prop} {H0 : Heap} {cells slots : Nat} {Qf : State → Prop} {D : va_G} {G : GA} {k : Nat} {X : SX} (C : CX k X G D p s m args c R A H0 cells slots) {pc ln op a b : Nat} {v : Value} {ts : List (Int32 × Nat)} {lo lo' : Lo} {st st' : List Value} {h h' : AH} {j : Option Nat} (hs : stp X (pc, ln, op, a, b, v, ts) lo st h = some (.inl (j, lo', st', h')))  (hd : decode (byt k) pc = .ok (.lxor, ln)) (hm : mOp k pc ln op a b v ts (.lxor) = true) (kk : KKt p l e R s m args below meth c A H0 cells slots Qf D G k h' lo' st' (nxt (pc, ln, op, a, b, v, ts) j)) : KKt p l e R s m args below meth c A H0 cells slots Qf D G k h lo st pc := by
  intro H locs ls hw hl
  obtain ⟨hx, hb, hml, hown, hts, hnw, hK, hR, hA, hX⟩ := C
  obtain ⟨hP, hD, hS, hj⟩ := id hw
  obtain ⟨rfl, rfl, rfl⟩ := of_decide_eq_true hm
  rcases st with _ | ⟨y1, st⟩
  · cases hs
  rcases st with _ | ⟨y2, st⟩
  · cases y1 <;> cases hs
  cases y1
  case long y =>
    cases y2
    case long x =>
      cases (show some (Sum.inl (none, lo, (Value.long (x ^^^ y)) :: st, h)) = some (Sum.inl (j, lo', st', h')) from hs)
      exact lv_lxor hx hb hd (kk H locs ls hw hl)
    all_goals (cases hs)
  all_goals (cases y2 <;> cases hs)
set_option maxHeartbeats 2000000 in
set_option maxRecDepth 100000 in
theorem q_ldiv {p : Program} {l : Launch} {e : Env} {R : Room} {s : State} {m : MethodId} {args : Array Value} {below : List Frame} {meth : Method} {c : Code} {A : Nat → Prop} {H0 : Heap} {cells slots : Nat} {Qf : State → Prop} {D : va_G} {G : GA} {k : Nat} {X : SX} (C : CX k X G D p s m args c R A H0 cells slots) {pc ln op a b : Nat} {v : Value} {ts : List (Int32 × Nat)} {lo lo' : Lo} {st st' : List Value} {h h' : AH} {j : Option Nat} (hs : stp X (pc, ln, op, a, b, v, ts) lo st h = some (.inl (j, lo', st', h')))  (hd : decode (byt k) pc = .ok (.ldiv, ln)) (hm : mOp k pc ln op a b v ts (.ldiv) = true) (kk : KKt p l e R s m args below meth c A H0 cells slots Qf D G k h' lo' st' (nxt (pc, ln, op, a, b, v, ts) j)) : KKt p l e R s m args below meth c A H0 cells slots Qf D G k h lo st pc := by
  intro H locs ls hw hl
  obtain ⟨hx, hb, hml, hown, hts, hnw, hK, hR, hA, hX⟩ := C
  obtain ⟨hP, hD, hS, hj⟩ := id hw
  obtain ⟨rfl, rfl, rfl⟩ := of_decide_eq_true hm
  rcases st with _ | ⟨y1, st⟩
  · cases hs
  rcases st with _ | ⟨y2, st⟩
  · cases y1 <;> cases hs
  cases y1
  case long y =>
    cases y2
    case long x =>
      replace hs : (if y = 0 then none else nx lo (.long (x / y) :: st) h) = some (Sum.inl (j, lo', st', h')) := hs
      by_cases hy : y = 0
      · rw [if_pos hy] at hs; cases hs
      · rw [if_neg hy] at hs
        cases (show some (Sum.inl (none, lo, (Value.long (x / y)) :: st, h)) = some (Sum.inl (j, lo', st', h')) from hs)
        exact lv_ldiv hx hb hd hy (kk H locs ls hw hl)
    all_goals (cases hs)
  all_goals (cases y2 <;> cases hs)
set_option maxHeartbeats 2000000 in
set_option maxRecDepth 100000 in
theorem q_lrem {p : Program} {l : Launch} {e : Env} {R : Room} {s : State} {m : MethodId} {args : Array Value} {below : List Frame} {meth : Method} {c : Code} {A : Nat → Prop} {H0 : Heap} {cells slots : Nat} {Qf : State → Prop} {D : va_G} {G : GA} {k : Nat} {X : SX} (C : CX k X G D p s m args c R A H0 cells slots) {pc ln op a b : Nat} {v : Value} {ts : List (Int32 × Nat)} {lo lo' : Lo} {st st' : List Value} {h h' : AH} {j : Option Nat} (hs : stp X (pc, ln, op, a, b, v, ts) lo st h = some (.inl (j, lo', st', h')))  (hd : decode (byt k) pc = .ok (.lrem, ln)) (hm : mOp k pc ln op a b v ts (.lrem) = true) (kk : KKt p l e R s m args below meth c A H0 cells slots Qf D G k h' lo' st' (nxt (pc, ln, op, a, b, v, ts) j)) : KKt p l e R s m args below meth c A H0 cells slots Qf D G k h lo st pc := by
  intro H locs ls hw hl
  obtain ⟨hx, hb, hml, hown, hts, hnw, hK, hR, hA, hX⟩ := C
  obtain ⟨hP, hD, hS, hj⟩ := id hw
  obtain ⟨rfl, rfl, rfl⟩ := of_decide_eq_true hm
  rcases st with _ | ⟨y1, st⟩
  · cases hs
  rcases st with _ | ⟨y2, st⟩
  · cases y1 <;> cases hs
  cases y1
  case long y =>
    cases y2
    case long x =>
      replace hs : (if y = 0 then none else nx lo (.long (x - x / y * y) :: st) h) = some (Sum.inl (j, lo', st', h')) := hs
      by_cases hy : y = 0
      · rw [if_pos hy] at hs; cases hs
      · rw [if_neg hy] at hs
        cases (show some (Sum.inl (none, lo, (Value.long (x - x / y * y)) :: st, h)) = some (Sum.inl (j, lo', st', h')) from hs)
        exact lv_lrem hx hb hd hy (kk H locs ls hw hl)
    all_goals (cases hs)
  all_goals (cases y2 <;> cases hs)
set_option maxHeartbeats 2000000 in
set_option maxRecDepth 100000 in
theorem q_lshl {p : Program} {l : Launch} {e : Env} {R : Room} {s : State} {m : MethodId} {args : Array Value} {below : List Frame} {meth : Method} {c : Code} {A : Nat → Prop} {H0 : Heap} {cells slots : Nat} {Qf : State → Prop} {D : va_G} {G : GA} {k : Nat} {X : SX} (C : CX k X G D p s m args c R A H0 cells slots) {pc ln op a b : Nat} {v : Value} {ts : List (Int32 × Nat)} {lo lo' : Lo} {st st' : List Value} {h h' : AH} {j : Option Nat} (hs : stp X (pc, ln, op, a, b, v, ts) lo st h = some (.inl (j, lo', st', h')))  (hd : decode (byt k) pc = .ok (.lshl, ln)) (hm : mOp k pc ln op a b v ts (.lshl) = true) (kk : KKt p l e R s m args below meth c A H0 cells slots Qf D G k h' lo' st' (nxt (pc, ln, op, a, b, v, ts) j)) : KKt p l e R s m args below meth c A H0 cells slots Qf D G k h lo st pc := by
  intro H locs ls hw hl
  obtain ⟨hx, hb, hml, hown, hts, hnw, hK, hR, hA, hX⟩ := C
  obtain ⟨hP, hD, hS, hj⟩ := id hw
  obtain ⟨rfl, rfl, rfl⟩ := of_decide_eq_true hm
  rcases st with _ | ⟨y1, st⟩
  · cases hs
  rcases st with _ | ⟨y2, st⟩
  · cases y1 <;> cases hs
  cases y1
  case int y =>
    cases y2
    case long x =>
      cases (show some (Sum.inl (none, lo, (Value.long (x <<< (y.toInt64 &&& 63))) :: st, h)) = some (Sum.inl (j, lo', st', h')) from hs)
      exact lv_lshl hx hb hd rfl (kk H locs ls hw hl)
    all_goals (cases hs)
  all_goals (cases y2 <;> cases hs)
set_option maxHeartbeats 2000000 in
set_option maxRecDepth 100000 in
theorem q_lshr {p : Program} {l : Launch} {e : Env} {R : Room} {s : State} {m : MethodId} {args : Array Value} {below : List Frame} {meth : Method} {c : Code} {A : Nat → Prop} {H0 : Heap} {cells slots : Nat} {Qf : State → Prop} {D : va_G} {G : GA} {k : Nat} {X : SX} (C : CX k X G D p s m args c R A H0 cells slots) {pc ln op a b : Nat} {v : Value} {ts : List (Int32 × Nat)} {lo lo' : Lo} {st st' : List Value} {h h' : AH} {j : Option Nat} (hs : stp X (pc, ln, op, a, b, v, ts) lo st h = some (.inl (j, lo', st', h')))  (hd : decode (byt k) pc = .ok (.lshr, ln)) (hm : mOp k pc ln op a b v ts (.lshr) = true) (kk : KKt p l e R s m args below meth c A H0 cells slots Qf D G k h' lo' st' (nxt (pc, ln, op, a, b, v, ts) j)) : KKt p l e R s m args below meth c A H0 cells slots Qf D G k h lo st pc := by
  intro H locs ls hw hl
  obtain ⟨hx, hb, hml, hown, hts, hnw, hK, hR, hA, hX⟩ := C
  obtain ⟨hP, hD, hS, hj⟩ := id hw
  obtain ⟨rfl, rfl, rfl⟩ := of_decide_eq_true hm
  rcases st with _ | ⟨y1, st⟩
  · cases hs
  rcases st with _ | ⟨y2, st⟩
  · cases y1 <;> cases hs
  cases y1
  case int y =>
    cases y2
    case long x =>
      cases (show some (Sum.inl (none, lo, (Value.long (x >>> (y.toInt64 &&& 63))) :: st, h)) = some (Sum.inl (j, lo', st', h')) from hs)
      exact lv_lshr hx hb hd rfl (kk H locs ls hw hl)
    all_goals (cases hs)
  all_goals (cases y2 <;> cases hs)
set_option maxHeartbeats 2000000 in
set_option maxRecDepth 100000 in
theorem q_lushr {p : Program} {l : Launch} {e : Env} {R : Room} {s : State} {m : MethodId} {args : Array Value} {below : List Frame} {meth : Method} {c : Code} {A : Nat → Prop} {H0 : Heap} {cells slots : Nat} {Qf : State → Prop} {D : va_G} {G : GA} {k : Nat} {X : SX} (C : CX k X G D p s m args c R A H0 cells slots) {pc ln op a b : Nat} {v : Value} {ts : List (Int32 × Nat)} {lo lo' : Lo} {st st' : List Value} {h h' : AH} {j : Option Nat} (hs : stp X (pc, ln, op, a, b, v, ts) lo st h = some (.inl (j, lo', st', h')))  (hd : decode (byt k) pc = .ok (.lushr, ln)) (hm : mOp k pc ln op a b v ts (.lushr) = true) (kk : KKt p l e R s m args below meth c A H0 cells slots Qf D G k h' lo' st' (nxt (pc, ln, op, a, b, v, ts) j)) : KKt p l e R s m args below meth c A H0 cells slots Qf D G k h lo st pc := by
  intro H locs ls hw hl
  obtain ⟨hx, hb, hml, hown, hts, hnw, hK, hR, hA, hX⟩ := C
  obtain ⟨hP, hD, hS, hj⟩ := id hw
  obtain ⟨rfl, rfl, rfl⟩ := of_decide_eq_true hm
  rcases st with _ | ⟨y1, st⟩
  · cases hs
  rcases st with _ | ⟨y2, st⟩
  · cases y1 <;> cases hs
  cases y1
  case int y =>
    cases y2
    case long x =>
      cases (show some (Sum.inl (none, lo, (Value.long ((x.toUInt64 >>> (y.toInt64.toUInt64 &&& Int64.toUInt64 63)).toInt64)) :: st, h)) = some (Sum.inl (j, lo', st', h')) from hs)
      exact lv_lushr hx hb hd rfl (kk H locs ls hw hl)
    all_goals (cases hs)
  all_goals (cases y2 <;> cases hs)
set_option maxHeartbeats 2000000 in
set_option maxRecDepth 100000 in
theorem q_lcmp {p : Program} {l : Launch} {e : Env} {R : Room} {s : State} {m : MethodId} {args : Array Value} {below : List Frame} {meth : Method} {c : Code} {A : Nat → Prop} {H0 : Heap} {cells slots : Nat} {Qf : State → Prop} {D : va_G} {G : GA} {k : Nat} {X : SX} (C : CX k X G D p s m args c R A H0 cells slots) {pc ln op a b : Nat} {v : Value} {ts : List (Int32 × Nat)} {lo lo' : Lo} {st st' : List Value} {h h' : AH} {j : Option Nat} (hs : stp X (pc, ln, op, a, b, v, ts) lo st h = some (.inl (j, lo', st', h')))  (hd : decode (byt k) pc = .ok (.lcmp, ln)) (hm : mOp k pc ln op a b v ts (.lcmp) = true) (kk : KKt p l e R s m args below meth c A H0 cells slots Qf D G k h' lo' st' (nxt (pc, ln, op, a, b, v, ts) j)) : KKt p l e R s m args below meth c A H0 cells slots Qf D G k h lo st pc := by
  intro H locs ls hw hl
  obtain ⟨hx, hb, hml, hown, hts, hnw, hK, hR, hA, hX⟩ := C
  obtain ⟨hP, hD, hS, hj⟩ := id hw
  obtain ⟨rfl, rfl⟩ := of_decide_eq_true hm
  rcases st with _ | ⟨y1, st⟩
  · cases hs
  rcases st with _ | ⟨y2, st⟩
  · cases y1 <;> cases hs
  cases y1
  case long y =>
    cases y2
    case long x =>
      cases (show some (Sum.inl (none, lo, (Value.int (lg_cmp x y)) :: st, h)) = some (Sum.inl (j, lo', st', h')) from hs)
      exact W.lcmp hx hb hd (kk H locs ls hw hl)
    all_goals (cases hs)
  all_goals (cases y2 <;> cases hs)
set_option maxHeartbeats 2000000 in
set_option maxRecDepth 100000 in
theorem q_ineg {p : Program} {l : Launch} {e : Env} {R : Room} {s : State} {m : MethodId} {args : Array Value} {below : List Frame} {meth : Method} {c : Code} {A : Nat → Prop} {H0 : Heap} {cells slots : Nat} {Qf : State → Prop} {D : va_G} {G : GA} {k : Nat} {X : SX} (C : CX k X G D p s m args c R A H0 cells slots) {pc ln op a b : Nat} {v : Value} {ts : List (Int32 × Nat)} {lo lo' : Lo} {st st' : List Value} {h h' : AH} {j : Option Nat} (hs : stp X (pc, ln, op, a, b, v, ts) lo st h = some (.inl (j, lo', st', h')))  (hd : decode (byt k) pc = .ok (.ineg, ln)) (hm : mOp k pc ln op a b v ts (.ineg) = true) (kk : KKt p l e R s m args below meth c A H0 cells slots Qf D G k h' lo' st' (nxt (pc, ln, op, a, b, v, ts) j)) : KKt p l e R s m args below meth c A H0 cells slots Qf D G k h lo st pc := by
  intro H locs ls hw hl
  obtain ⟨hx, hb, hml, hown, hts, hnw, hK, hR, hA, hX⟩ := C
  obtain ⟨hP, hD, hS, hj⟩ := id hw
  obtain ⟨rfl, rfl, rfl⟩ := of_decide_eq_true hm
  rcases st with _ | ⟨y1, st⟩
  · cases hs
  cases y1
  case int x =>
    cases (show some (Sum.inl (none, lo, (Value.int (-x)) :: st, h)) = some (Sum.inl (j, lo', st', h')) from hs)
    exact lv_ineg hx hb hd (kk H locs ls hw hl)
  all_goals (cases hs)
set_option maxHeartbeats 2000000 in
set_option maxRecDepth 100000 in
theorem q_lneg {p : Program} {l : Launch} {e : Env} {R : Room} {s : State} {m : MethodId} {args : Array Value} {below : List Frame} {meth : Method} {c : Code} {A : Nat → Prop} {H0 : Heap} {cells slots : Nat} {Qf : State → Prop} {D : va_G} {G : GA} {k : Nat} {X : SX} (C : CX k X G D p s m args c R A H0 cells slots) {pc ln op a b : Nat} {v : Value} {ts : List (Int32 × Nat)} {lo lo' : Lo} {st st' : List Value} {h h' : AH} {j : Option Nat} (hs : stp X (pc, ln, op, a, b, v, ts) lo st h = some (.inl (j, lo', st', h')))  (hd : decode (byt k) pc = .ok (.lneg, ln)) (hm : mOp k pc ln op a b v ts (.lneg) = true) (kk : KKt p l e R s m args below meth c A H0 cells slots Qf D G k h' lo' st' (nxt (pc, ln, op, a, b, v, ts) j)) : KKt p l e R s m args below meth c A H0 cells slots Qf D G k h lo st pc := by
  intro H locs ls hw hl
  obtain ⟨hx, hb, hml, hown, hts, hnw, hK, hR, hA, hX⟩ := C
  obtain ⟨hP, hD, hS, hj⟩ := id hw
  obtain ⟨rfl, rfl, rfl⟩ := of_decide_eq_true hm
  rcases st with _ | ⟨y1, st⟩
  · cases hs
  cases y1
  case long x =>
    cases (show some (Sum.inl (none, lo, (Value.long (-x)) :: st, h)) = some (Sum.inl (j, lo', st', h')) from hs)
    exact lv_lneg hx hb hd (kk H locs ls hw hl)
  all_goals (cases hs)
set_option maxHeartbeats 2000000 in
set_option maxRecDepth 100000 in
theorem q_i2l {p : Program} {l : Launch} {e : Env} {R : Room} {s : State} {m : MethodId} {args : Array Value} {below : List Frame} {meth : Method} {c : Code} {A : Nat → Prop} {H0 : Heap} {cells slots : Nat} {Qf : State → Prop} {D : va_G} {G : GA} {k : Nat} {X : SX} (C : CX k X G D p s m args c R A H0 cells slots) {pc ln op a b : Nat} {v : Value} {ts : List (Int32 × Nat)} {lo lo' : Lo} {st st' : List Value} {h h' : AH} {j : Option Nat} (hs : stp X (pc, ln, op, a, b, v, ts) lo st h = some (.inl (j, lo', st', h')))  (hd : decode (byt k) pc = .ok (.i2l, ln)) (hm : mOp k pc ln op a b v ts (.i2l) = true) (kk : KKt p l e R s m args below meth c A H0 cells slots Qf D G k h' lo' st' (nxt (pc, ln, op, a, b, v, ts) j)) : KKt p l e R s m args below meth c A H0 cells slots Qf D G k h lo st pc := by
  intro H locs ls hw hl
  obtain ⟨hx, hb, hml, hown, hts, hnw, hK, hR, hA, hX⟩ := C
  obtain ⟨hP, hD, hS, hj⟩ := id hw
  obtain ⟨rfl, rfl, rfl⟩ := of_decide_eq_true hm
  rcases st with _ | ⟨y1, st⟩
  · cases hs
  cases y1
  case int x =>
    cases (show some (Sum.inl (none, lo, (Value.long (x.toInt64)) :: st, h)) = some (Sum.inl (j, lo', st', h')) from hs)
    exact lv_i2l hx hb hd rfl (kk H locs ls hw hl)
  all_goals (cases hs)
set_option maxHeartbeats 2000000 in
set_option maxRecDepth 100000 in
theorem q_l2i {p : Program} {l : Launch} {e : Env} {R : Room} {s : State} {m : MethodId} {args : Array Value} {below : List Frame} {meth : Method} {c : Code} {A : Nat → Prop} {H0 : Heap} {cells slots : Nat} {Qf : State → Prop} {D : va_G} {G : GA} {k : Nat} {X : SX} (C : CX k X G D p s m args c R A H0 cells slots) {pc ln op a b : Nat} {v : Value} {ts : List (Int32 × Nat)} {lo lo' : Lo} {st st' : List Value} {h h' : AH} {j : Option Nat} (hs : stp X (pc, ln, op, a, b, v, ts) lo st h = some (.inl (j, lo', st', h')))  (hd : decode (byt k) pc = .ok (.l2i, ln)) (hm : mOp k pc ln op a b v ts (.l2i) = true) (kk : KKt p l e R s m args below meth c A H0 cells slots Qf D G k h' lo' st' (nxt (pc, ln, op, a, b, v, ts) j)) : KKt p l e R s m args below meth c A H0 cells slots Qf D G k h lo st pc := by
  intro H locs ls hw hl
  obtain ⟨hx, hb, hml, hown, hts, hnw, hK, hR, hA, hX⟩ := C
  obtain ⟨hP, hD, hS, hj⟩ := id hw
  obtain ⟨rfl, rfl, rfl⟩ := of_decide_eq_true hm
  rcases st with _ | ⟨y1, st⟩
  · cases hs
  cases y1
  case long x =>
    cases (show some (Sum.inl (none, lo, (Value.int (x.toInt32)) :: st, h)) = some (Sum.inl (j, lo', st', h')) from hs)
    exact lv_l2i hx hb hd rfl (kk H locs ls hw hl)
  all_goals (cases hs)
set_option maxHeartbeats 2000000 in
set_option maxRecDepth 100000 in
theorem q_i2b {p : Program} {l : Launch} {e : Env} {R : Room} {s : State} {m : MethodId} {args : Array Value} {below : List Frame} {meth : Method} {c : Code} {A : Nat → Prop} {H0 : Heap} {cells slots : Nat} {Qf : State → Prop} {D : va_G} {G : GA} {k : Nat} {X : SX} (C : CX k X G D p s m args c R A H0 cells slots) {pc ln op a b : Nat} {v : Value} {ts : List (Int32 × Nat)} {lo lo' : Lo} {st st' : List Value} {h h' : AH} {j : Option Nat} (hs : stp X (pc, ln, op, a, b, v, ts) lo st h = some (.inl (j, lo', st', h')))  (hd : decode (byt k) pc = .ok (.i2b, ln)) (hm : mOp k pc ln op a b v ts (.i2b) = true) (kk : KKt p l e R s m args below meth c A H0 cells slots Qf D G k h' lo' st' (nxt (pc, ln, op, a, b, v, ts) j)) : KKt p l e R s m args below meth c A H0 cells slots Qf D G k h lo st pc := by
  intro H locs ls hw hl
  obtain ⟨hx, hb, hml, hown, hts, hnw, hK, hR, hA, hX⟩ := C
  obtain ⟨hP, hD, hS, hj⟩ := id hw
  obtain ⟨rfl, rfl, rfl⟩ := of_decide_eq_true hm
  rcases st with _ | ⟨y1, st⟩
  · cases hs
  cases y1
  case int x =>
    cases (show some (Sum.inl (none, lo, (Value.int (x.toInt8.toInt32)) :: st, h)) = some (Sum.inl (j, lo', st', h')) from hs)
    exact lv_i2b hx hb hd rfl (kk H locs ls hw hl)
  all_goals (cases hs)
set_option maxHeartbeats 2000000 in
set_option maxRecDepth 100000 in
theorem q_i2s {p : Program} {l : Launch} {e : Env} {R : Room} {s : State} {m : MethodId} {args : Array Value} {below : List Frame} {meth : Method} {c : Code} {A : Nat → Prop} {H0 : Heap} {cells slots : Nat} {Qf : State → Prop} {D : va_G} {G : GA} {k : Nat} {X : SX} (C : CX k X G D p s m args c R A H0 cells slots) {pc ln op a b : Nat} {v : Value} {ts : List (Int32 × Nat)} {lo lo' : Lo} {st st' : List Value} {h h' : AH} {j : Option Nat} (hs : stp X (pc, ln, op, a, b, v, ts) lo st h = some (.inl (j, lo', st', h')))  (hd : decode (byt k) pc = .ok (.i2s, ln)) (hm : mOp k pc ln op a b v ts (.i2s) = true) (kk : KKt p l e R s m args below meth c A H0 cells slots Qf D G k h' lo' st' (nxt (pc, ln, op, a, b, v, ts) j)) : KKt p l e R s m args below meth c A H0 cells slots Qf D G k h lo st pc := by
  intro H locs ls hw hl
  obtain ⟨hx, hb, hml, hown, hts, hnw, hK, hR, hA, hX⟩ := C
  obtain ⟨hP, hD, hS, hj⟩ := id hw
  obtain ⟨rfl, rfl, rfl⟩ := of_decide_eq_true hm
  rcases st with _ | ⟨y1, st⟩
  · cases hs
  cases y1
  case int x =>
    cases (show some (Sum.inl (none, lo, (Value.int (x.toInt16.toInt32)) :: st, h)) = some (Sum.inl (j, lo', st', h')) from hs)
    exact lv_i2s hx hb hd rfl (kk H locs ls hw hl)
  all_goals (cases hs)
set_option maxHeartbeats 2000000 in
set_option maxRecDepth 100000 in
theorem q_ifCond {p : Program} {l : Launch} {e : Env} {R : Room} {s : State} {m : MethodId} {args : Array Value} {below : List Frame} {meth : Method} {c : Code} {A : Nat → Prop} {H0 : Heap} {cells slots : Nat} {Qf : State → Prop} {D : va_G} {G : GA} {k : Nat} {X : SX} (C : CX k X G D p s m args c R A H0 cells slots) {pc ln op a b : Nat} {v : Value} {ts : List (Int32 × Nat)} {lo lo' : Lo} {st st' : List Value} {h h' : AH} {j : Option Nat} (hs : stp X (pc, ln, op, a, b, v, ts) lo st h = some (.inl (j, lo', st', h'))) {cond : Jvm.ClassFile.Cond} {off : Int} (hd : decode (byt k) pc = .ok (.ifCond cond off, ln)) (hm : mOp k pc ln op a b v ts (.ifCond cond off) = true) (kk : KKt p l e R s m args below meth c A H0 cells slots Qf D G k h' lo' st' (nxt (pc, ln, op, a, b, v, ts) j)) : KKt p l e R s m args below meth c A H0 cells slots Qf D G k h lo st pc := by
  intro H locs ls hw hl
  obtain ⟨hx, hb, hml, hown, hts, hnw, hK, hR, hA, hX⟩ := C
  obtain ⟨hP, hD, hS, hj⟩ := id hw
  cases cond
  case eq =>
    obtain ⟨rfl, rfl, rfl, ht⟩ := of_decide_eq_true hm
    rcases st with _ | ⟨y1, st⟩
    · cases hs
    cases y1
    case int x =>
      replace hs : br (x = 0) a lo st h = _ := hs
      cases (show some (Sum.inl ((if x = 0 then some a else none), lo, st, h)) = some (Sum.inl (j, lo', st', h')) from hs)
      have kk := kk H locs ls hw hl
      by_cases hq : x = 0
      · rw [if_pos hq] at kk
        exact lv_if_eq hx hb hd ht (fun _ => kk) (fun z => absurd hq (by first | exact z | (intro w; exact w z)))
      · rw [if_neg hq] at kk
        exact lv_if_eq hx hb hd ht (fun z => absurd z (by first | exact hq | (intro w; exact hq w))) (fun _ => kk)
    all_goals (cases hs)
  case ne =>
    obtain ⟨rfl, rfl, rfl, ht⟩ := of_decide_eq_true hm
    rcases st with _ | ⟨y1, st⟩
    · cases hs
    cases y1
    case int x =>
      replace hs : br (x ≠ 0) a lo st h = _ := hs
      cases (show some (Sum.inl ((if x ≠ 0 then some a else none), lo, st, h)) = some (Sum.inl (j, lo', st', h')) from hs)
      have kk := kk H locs ls hw hl
      by_cases hq : x ≠ 0
      · rw [if_pos hq] at kk
        exact lv_if_ne hx hb hd ht (fun _ => kk) (fun z => absurd hq (by first | exact z | (intro w; exact w z)))
      · rw [if_neg hq] at kk
        exact lv_if_ne hx hb hd ht (fun z => absurd z (by first | exact hq | (intro w; exact hq w))) (fun _ => kk)
    all_goals (cases hs)
  case lt =>
    obtain ⟨rfl, rfl, rfl, ht⟩ := of_decide_eq_true hm
    rcases st with _ | ⟨y1, st⟩
    · cases hs
    cases y1
    case int x =>
      replace hs : br (x < 0) a lo st h = _ := hs
      cases (show some (Sum.inl ((if x < 0 then some a else none), lo, st, h)) = some (Sum.inl (j, lo', st', h')) from hs)
      have kk := kk H locs ls hw hl
      by_cases hq : x < 0
      · rw [if_pos hq] at kk
        exact lv_if_lt hx hb hd ht (fun _ => kk) (fun z => absurd hq (by first | exact z | (intro w; exact w z)))
      · rw [if_neg hq] at kk
        exact lv_if_lt hx hb hd ht (fun z => absurd z (by first | exact hq | (intro w; exact hq w))) (fun _ => kk)
    all_goals (cases hs)
  case ge =>
    obtain ⟨rfl, rfl, rfl, ht⟩ := of_decide_eq_true hm
    rcases st with _ | ⟨y1, st⟩
    · cases hs
    cases y1
    case int x =>
      replace hs : br (0 ≤ x) a lo st h = _ := hs
      cases (show some (Sum.inl ((if 0 ≤ x then some a else none), lo, st, h)) = some (Sum.inl (j, lo', st', h')) from hs)
      have kk := kk H locs ls hw hl
      by_cases hq : 0 ≤ x
      · rw [if_pos hq] at kk
        exact lv_if_ge hx hb hd ht (fun _ => kk) (fun z => absurd hq (by first | exact z | (intro w; exact w z)))
      · rw [if_neg hq] at kk
        exact lv_if_ge hx hb hd ht (fun z => absurd z (by first | exact hq | (intro w; exact hq w))) (fun _ => kk)
    all_goals (cases hs)
  case gt =>
    obtain ⟨rfl, rfl, rfl, ht⟩ := of_decide_eq_true hm
    rcases st with _ | ⟨y1, st⟩
    · cases hs
    cases y1
    case int x =>
      replace hs : br (0 < x) a lo st h = _ := hs
      cases (show some (Sum.inl ((if 0 < x then some a else none), lo, st, h)) = some (Sum.inl (j, lo', st', h')) from hs)
      have kk := kk H locs ls hw hl
      by_cases hq : 0 < x
      · rw [if_pos hq] at kk
        exact lv_if_gt hx hb hd ht (fun _ => kk) (fun z => absurd hq (by first | exact z | (intro w; exact w z)))
      · rw [if_neg hq] at kk
        exact lv_if_gt hx hb hd ht (fun z => absurd z (by first | exact hq | (intro w; exact hq w))) (fun _ => kk)
    all_goals (cases hs)
  case le =>
    obtain ⟨rfl, rfl, rfl, ht⟩ := of_decide_eq_true hm
    rcases st with _ | ⟨y1, st⟩
    · cases hs
    cases y1
    case int x =>
      replace hs : br (x ≤ 0) a lo st h = _ := hs
      cases (show some (Sum.inl ((if x ≤ 0 then some a else none), lo, st, h)) = some (Sum.inl (j, lo', st', h')) from hs)
      have kk := kk H locs ls hw hl
      by_cases hq : x ≤ 0
      · rw [if_pos hq] at kk
        exact lv_if_le hx hb hd ht (fun _ => kk) (fun z => absurd hq (by first | exact z | (intro w; exact w z)))
      · rw [if_neg hq] at kk
        exact lv_if_le hx hb hd ht (fun z => absurd z (by first | exact hq | (intro w; exact hq w))) (fun _ => kk)
    all_goals (cases hs)
set_option maxHeartbeats 2000000 in
set_option maxRecDepth 100000 in
theorem q_if_icmp {p : Program} {l : Launch} {e : Env} {R : Room} {s : State} {m : MethodId} {args : Array Value} {below : List Frame} {meth : Method} {c : Code} {A : Nat → Prop} {H0 : Heap} {cells slots : Nat} {Qf : State → Prop} {D : va_G} {G : GA} {k : Nat} {X : SX} (C : CX k X G D p s m args c R A H0 cells slots) {pc ln op a b : Nat} {v : Value} {ts : List (Int32 × Nat)} {lo lo' : Lo} {st st' : List Value} {h h' : AH} {j : Option Nat} (hs : stp X (pc, ln, op, a, b, v, ts) lo st h = some (.inl (j, lo', st', h'))) {cond : Jvm.ClassFile.Cond} {off : Int} (hd : decode (byt k) pc = .ok (.if_icmp cond off, ln)) (hm : mOp k pc ln op a b v ts (.if_icmp cond off) = true) (kk : KKt p l e R s m args below meth c A H0 cells slots Qf D G k h' lo' st' (nxt (pc, ln, op, a, b, v, ts) j)) : KKt p l e R s m args below meth c A H0 cells slots Qf D G k h lo st pc := by
  intro H locs ls hw hl
  obtain ⟨hx, hb, hml, hown, hts, hnw, hK, hR, hA, hX⟩ := C
  obtain ⟨hP, hD, hS, hj⟩ := id hw
  cases cond
  case eq =>
    obtain ⟨rfl, rfl, rfl, ht⟩ := of_decide_eq_true hm
    rcases st with _ | ⟨y1, st⟩
    · cases hs
    rcases st with _ | ⟨y2, st⟩
    · cases y1 <;> cases hs
    cases y1
    case int y =>
      cases y2
      case int x =>
        replace hs : br (x = y) a lo st h = _ := hs
        cases (show some (Sum.inl ((if x = y then some a else none), lo, st, h)) = some (Sum.inl (j, lo', st', h')) from hs)
        have kk := kk H locs ls hw hl
        by_cases hq : x = y
        · rw [if_pos hq] at kk
          exact lv_icmp_eq hx hb hd ht (fun _ => kk) (fun z => absurd hq (by first | exact z | (intro w; exact w z)))
        · rw [if_neg hq] at kk
          exact lv_icmp_eq hx hb hd ht (fun z => absurd z (by first | exact hq | (intro w; exact hq w))) (fun _ => kk)
      all_goals (cases hs)
    all_goals (cases hs)
  case ne =>
    obtain ⟨rfl, rfl, rfl, ht⟩ := of_decide_eq_true hm
    rcases st with _ | ⟨y1, st⟩
    · cases hs
    rcases st with _ | ⟨y2, st⟩
    · cases y1 <;> cases hs
    cases y1
    case int y =>
      cases y2
      case int x =>
        replace hs : br (x ≠ y) a lo st h = _ := hs
        cases (show some (Sum.inl ((if x ≠ y then some a else none), lo, st, h)) = some (Sum.inl (j, lo', st', h')) from hs)
        have kk := kk H locs ls hw hl
        by_cases hq : x ≠ y
        · rw [if_pos hq] at kk
          exact lv_icmp_ne hx hb hd ht (fun _ => kk) (fun z => absurd hq (by first | exact z | (intro w; exact w z)))
        · rw [if_neg hq] at kk
          exact lv_icmp_ne hx hb hd ht (fun z => absurd z (by first | exact hq | (intro w; exact hq w))) (fun _ => kk)
      all_goals (cases hs)
    all_goals (cases hs)
  case lt =>
    obtain ⟨rfl, rfl, rfl, ht⟩ := of_decide_eq_true hm
    rcases st with _ | ⟨y1, st⟩
    · cases hs
    rcases st with _ | ⟨y2, st⟩
    · cases y1 <;> cases hs
    cases y1
    case int y =>
      cases y2
      case int x =>
        replace hs : br (x < y) a lo st h = _ := hs
        cases (show some (Sum.inl ((if x < y then some a else none), lo, st, h)) = some (Sum.inl (j, lo', st', h')) from hs)
        have kk := kk H locs ls hw hl
        by_cases hq : x < y
        · rw [if_pos hq] at kk
          exact lv_icmp_lt hx hb hd ht (fun _ => kk) (fun z => absurd hq (by first | exact z | (intro w; exact w z)))
        · rw [if_neg hq] at kk
          exact lv_icmp_lt hx hb hd ht (fun z => absurd z (by first | exact hq | (intro w; exact hq w))) (fun _ => kk)
      all_goals (cases hs)
    all_goals (cases hs)
  case ge =>
    obtain ⟨rfl, rfl, rfl, ht⟩ := of_decide_eq_true hm
    rcases st with _ | ⟨y1, st⟩
    · cases hs
    rcases st with _ | ⟨y2, st⟩
    · cases y1 <;> cases hs
    cases y1
    case int y =>
      cases y2
      case int x =>
        replace hs : br (y ≤ x) a lo st h = _ := hs
        cases (show some (Sum.inl ((if y ≤ x then some a else none), lo, st, h)) = some (Sum.inl (j, lo', st', h')) from hs)
        have kk := kk H locs ls hw hl
        by_cases hq : y ≤ x
        · rw [if_pos hq] at kk
          exact lv_icmp_ge hx hb hd ht (fun _ => kk) (fun z => absurd hq (by first | exact z | (intro w; exact w z)))
        · rw [if_neg hq] at kk
          exact lv_icmp_ge hx hb hd ht (fun z => absurd z (by first | exact hq | (intro w; exact hq w))) (fun _ => kk)
      all_goals (cases hs)
    all_goals (cases hs)
  case gt =>
    obtain ⟨rfl, rfl, rfl, ht⟩ := of_decide_eq_true hm
    rcases st with _ | ⟨y1, st⟩
    · cases hs
    rcases st with _ | ⟨y2, st⟩
    · cases y1 <;> cases hs
    cases y1
    case int y =>
      cases y2
      case int x =>
        replace hs : br (y < x) a lo st h = _ := hs
        cases (show some (Sum.inl ((if y < x then some a else none), lo, st, h)) = some (Sum.inl (j, lo', st', h')) from hs)
        have kk := kk H locs ls hw hl
        by_cases hq : y < x
        · rw [if_pos hq] at kk
          exact lv_icmp_gt hx hb hd ht (fun _ => kk) (fun z => absurd hq (by first | exact z | (intro w; exact w z)))
        · rw [if_neg hq] at kk
          exact lv_icmp_gt hx hb hd ht (fun z => absurd z (by first | exact hq | (intro w; exact hq w))) (fun _ => kk)
      all_goals (cases hs)
    all_goals (cases hs)
  case le =>
    obtain ⟨rfl, rfl, rfl, ht⟩ := of_decide_eq_true hm
    rcases st with _ | ⟨y1, st⟩
    · cases hs
    rcases st with _ | ⟨y2, st⟩
    · cases y1 <;> cases hs
    cases y1
    case int y =>
      cases y2
      case int x =>
        replace hs : br (x ≤ y) a lo st h = _ := hs
        cases (show some (Sum.inl ((if x ≤ y then some a else none), lo, st, h)) = some (Sum.inl (j, lo', st', h')) from hs)
        have kk := kk H locs ls hw hl
        by_cases hq : x ≤ y
        · rw [if_pos hq] at kk
          exact lv_icmp_le hx hb hd ht (fun _ => kk) (fun z => absurd hq (by first | exact z | (intro w; exact w z)))
        · rw [if_neg hq] at kk
          exact lv_icmp_le hx hb hd ht (fun z => absurd z (by first | exact hq | (intro w; exact hq w))) (fun _ => kk)
      all_goals (cases hs)
    all_goals (cases hs)
set_option maxHeartbeats 2000000 in
set_option maxRecDepth 100000 in
theorem q_goto {p : Program} {l : Launch} {e : Env} {R : Room} {s : State} {m : MethodId} {args : Array Value} {below : List Frame} {meth : Method} {c : Code} {A : Nat → Prop} {H0 : Heap} {cells slots : Nat} {Qf : State → Prop} {D : va_G} {G : GA} {k : Nat} {X : SX} (C : CX k X G D p s m args c R A H0 cells slots) {pc ln op a b : Nat} {v : Value} {ts : List (Int32 × Nat)} {lo lo' : Lo} {st st' : List Value} {h h' : AH} {j : Option Nat} (hs : stp X (pc, ln, op, a, b, v, ts) lo st h = some (.inl (j, lo', st', h'))) {off : Int} (hd : decode (byt k) pc = .ok (.goto off, ln)) (hm : mOp k pc ln op a b v ts (.goto off) = true) (kk : KKt p l e R s m args below meth c A H0 cells slots Qf D G k h' lo' st' (nxt (pc, ln, op, a, b, v, ts) j)) : KKt p l e R s m args below meth c A H0 cells slots Qf D G k h lo st pc := by
  intro H locs ls hw hl
  obtain ⟨hx, hb, hml, hown, hts, hnw, hK, hR, hA, hX⟩ := C
  obtain ⟨hP, hD, hS, hj⟩ := id hw
  obtain ⟨rfl, rfl, ht⟩ := of_decide_eq_true hm
  cases (show some (Sum.inl (some a, lo, st, h)) = some (Sum.inl (j, lo', st', h')) from hs)
  exact lv_goto hx hb hd ht (kk H locs ls hw hl)
set_option maxHeartbeats 2000000 in
set_option maxRecDepth 100000 in
theorem q_dup {p : Program} {l : Launch} {e : Env} {R : Room} {s : State} {m : MethodId} {args : Array Value} {below : List Frame} {meth : Method} {c : Code} {A : Nat → Prop} {H0 : Heap} {cells slots : Nat} {Qf : State → Prop} {D : va_G} {G : GA} {k : Nat} {X : SX} (C : CX k X G D p s m args c R A H0 cells slots) {pc ln op a b : Nat} {v : Value} {ts : List (Int32 × Nat)} {lo lo' : Lo} {st st' : List Value} {h h' : AH} {j : Option Nat} (hs : stp X (pc, ln, op, a, b, v, ts) lo st h = some (.inl (j, lo', st', h')))  (hd : decode (byt k) pc = .ok (.dup, ln)) (hm : mOp k pc ln op a b v ts (.dup) = true) (kk : KKt p l e R s m args below meth c A H0 cells slots Qf D G k h' lo' st' (nxt (pc, ln, op, a, b, v, ts) j)) : KKt p l e R s m args below meth c A H0 cells slots Qf D G k h lo st pc := by
  intro H locs ls hw hl
  obtain ⟨hx, hb, hml, hown, hts, hnw, hK, hR, hA, hX⟩ := C
  obtain ⟨hP, hD, hS, hj⟩ := id hw
  obtain ⟨rfl, rfl⟩ := of_decide_eq_true hm
  rcases st with _ | ⟨y1, st⟩
  · cases hs
  cases y1
  case int x =>
    cases (show some (Sum.inl (none, lo, .int x :: .int x :: st, h)) = some (Sum.inl (j, lo', st', h')) from hs)
    exact lv_dup hx hb hd rfl (kk H locs ls hw hl)
  case ref x =>
    cases (show some (Sum.inl (none, lo, .ref x :: .ref x :: st, h)) = some (Sum.inl (j, lo', st', h')) from hs)
    exact lv_dup hx hb hd rfl (kk H locs ls hw hl)
  all_goals (cases hs)
set_option maxHeartbeats 2000000 in
set_option maxRecDepth 100000 in
theorem q_pop {p : Program} {l : Launch} {e : Env} {R : Room} {s : State} {m : MethodId} {args : Array Value} {below : List Frame} {meth : Method} {c : Code} {A : Nat → Prop} {H0 : Heap} {cells slots : Nat} {Qf : State → Prop} {D : va_G} {G : GA} {k : Nat} {X : SX} (C : CX k X G D p s m args c R A H0 cells slots) {pc ln op a b : Nat} {v : Value} {ts : List (Int32 × Nat)} {lo lo' : Lo} {st st' : List Value} {h h' : AH} {j : Option Nat} (hs : stp X (pc, ln, op, a, b, v, ts) lo st h = some (.inl (j, lo', st', h')))  (hd : decode (byt k) pc = .ok (.pop, ln)) (hm : mOp k pc ln op a b v ts (.pop) = true) (kk : KKt p l e R s m args below meth c A H0 cells slots Qf D G k h' lo' st' (nxt (pc, ln, op, a, b, v, ts) j)) : KKt p l e R s m args below meth c A H0 cells slots Qf D G k h lo st pc := by
  intro H locs ls hw hl
  obtain ⟨hx, hb, hml, hown, hts, hnw, hK, hR, hA, hX⟩ := C
  obtain ⟨hP, hD, hS, hj⟩ := id hw
  obtain ⟨rfl, rfl⟩ := of_decide_eq_true hm
  rcases st with _ | ⟨y1, st⟩
  · cases hs
  cases y1
  case int x =>
    cases (show some (Sum.inl (none, lo, st, h)) = some (Sum.inl (j, lo', st', h')) from hs)
    exact lv_pop hx hb hd rfl (kk H locs ls hw hl)
  all_goals (cases hs)
set_option maxHeartbeats 2000000 in
set_option maxRecDepth 100000 in
theorem q_dup2 {p : Program} {l : Launch} {e : Env} {R : Room} {s : State} {m : MethodId} {args : Array Value} {below : List Frame} {meth : Method} {c : Code} {A : Nat → Prop} {H0 : Heap} {cells slots : Nat} {Qf : State → Prop} {D : va_G} {G : GA} {k : Nat} {X : SX} (C : CX k X G D p s m args c R A H0 cells slots) {pc ln op a b : Nat} {v : Value} {ts : List (Int32 × Nat)} {lo lo' : Lo} {st st' : List Value} {h h' : AH} {j : Option Nat} (hs : stp X (pc, ln, op, a, b, v, ts) lo st h = some (.inl (j, lo', st', h')))  (hd : decode (byt k) pc = .ok (.dup2, ln)) (hm : mOp k pc ln op a b v ts (.dup2) = true) (kk : KKt p l e R s m args below meth c A H0 cells slots Qf D G k h' lo' st' (nxt (pc, ln, op, a, b, v, ts) j)) : KKt p l e R s m args below meth c A H0 cells slots Qf D G k h lo st pc := by
  intro H locs ls hw hl
  obtain ⟨hx, hb, hml, hown, hts, hnw, hK, hR, hA, hX⟩ := C
  obtain ⟨hP, hD, hS, hj⟩ := id hw
  obtain ⟨rfl, rfl⟩ := of_decide_eq_true hm
  rcases st with _ | ⟨y1, st⟩
  · cases hs
  rcases st with _ | ⟨y2, st⟩
  · cases y1 <;> cases hs
  cases y1
  case int y =>
    cases y2
    case ref x =>
      cases (show some (Sum.inl (none, lo, .int y :: .ref x :: .int y :: .ref x :: st, h)) = some (Sum.inl (j, lo', st', h')) from hs)
      exact lv_dup2_11 hx hb hd rfl rfl (kk H locs ls hw hl)
    all_goals (cases hs)
  all_goals (cases y2 <;> cases hs)
set_option maxHeartbeats 2000000 in
set_option maxRecDepth 100000 in
theorem q_getfield {p : Program} {l : Launch} {e : Env} {R : Room} {s : State} {m : MethodId} {args : Array Value} {below : List Frame} {meth : Method} {c : Code} {A : Nat → Prop} {H0 : Heap} {cells slots : Nat} {Qf : State → Prop} {D : va_G} {G : GA} {k : Nat} {X : SX} (C : CX k X G D p s m args c R A H0 cells slots) {pc ln op a b : Nat} {v : Value} {ts : List (Int32 × Nat)} {lo lo' : Lo} {st st' : List Value} {h h' : AH} {j : Option Nat} (hs : stp X (pc, ln, op, a, b, v, ts) lo st h = some (.inl (j, lo', st', h'))) {i : Nat} (hd : decode (byt k) pc = .ok (.getfield i, ln)) (hm : mOp k pc ln op a b v ts (.getfield i) = true) (kk : KKt p l e R s m args below meth c A H0 cells slots Qf D G k h' lo' st' (nxt (pc, ln, op, a, b, v, ts) j)) : KKt p l e R s m args below meth c A H0 cells slots Qf D G k h lo st pc := by
  intro H locs ls hw hl
  obtain ⟨hx, hb, hml, hown, hts, hnw, hK, hR, hA, hX⟩ := C
  obtain ⟨hP, hD, hS, hj⟩ := id hw
  obtain ⟨rfl, hf, rfl⟩ := of_decide_eq_true hm
  rcases st with _ | ⟨y1, st⟩
  · cases hs
  cases y1
  case ref q =>
    replace hs : (match gf h q a b with | some v => nx lo (v :: st) h | none => none) = some (Sum.inl (j, lo', st', h')) := hs
    cases hg : gf h q a b with
    | none => rw [hg] at hs; cases hs
    | some w =>
      rw [hg] at hs
      cases (show some (Sum.inl (none, lo, w :: st, h)) = some (Sum.inl (j, lo', st', h')) from hs)
      obtain ⟨fs, hq, hfb⟩ := gf_inv hg
      have hq61 : q < 61 := lt61 hj hq (fun z => by cases z; simp at hfb)
      obtain ⟨Cn, T, N, hv, hbN, hlk, hin⟩ := fld_of hf
      have he : (wsA G h)[q]? = some (G.1 q, .inr (a, fs.map (cv G.1))) := by rw [wsA_at hq61, hq]; rfl
      exact va_get (D := D) hx hb hts hin hown hK hP q he hv b hbN (hts _ hlk) (fun _ z => z) (v := cv G.1 w) (by rw [List.getElem?_map, hfb]; rfl) hd (kk H locs ls hw hl)
  all_goals (cases hs)
set_option maxHeartbeats 2000000 in
set_option maxRecDepth 100000 in
theorem q_putfield {p : Program} {l : Launch} {e : Env} {R : Room} {s : State} {m : MethodId} {args : Array Value} {below : List Frame} {meth : Method} {c : Code} {A : Nat → Prop} {H0 : Heap} {cells slots : Nat} {Qf : State → Prop} {D : va_G} {G : GA} {k : Nat} {X : SX} (C : CX k X G D p s m args c R A H0 cells slots) {pc ln op a b : Nat} {v : Value} {ts : List (Int32 × Nat)} {lo lo' : Lo} {st st' : List Value} {h h' : AH} {j : Option Nat} (hs : stp X (pc, ln, op, a, b, v, ts) lo st h = some (.inl (j, lo', st', h'))) {i : Nat} (hd : decode (byt k) pc = .ok (.putfield i, ln)) (hm : mOp k pc ln op a b v ts (.putfield i) = true) (kk : KKt p l e R s m args below meth c A H0 cells slots Qf D G k h' lo' st' (nxt (pc, ln, op, a, b, v, ts) j)) : KKt p l e R s m args below meth c A H0 cells slots Qf D G k h lo st pc := by
  intro H locs ls hw hl
  obtain ⟨hx, hb, hml, hown, hts, hnw, hK, hR, hA, hX⟩ := C
  obtain ⟨hP, hD, hS, hj⟩ := id hw
  obtain ⟨rfl, hf, hpk, rfl⟩ := of_decide_eq_true hm
  obtain ⟨Cn, T, N, hv, hbN, hlk, hin⟩ := fld_of hf
  obtain ⟨ty0, hty, hnm⟩ := vw_ty hv
  unfold putK at hpk
  rw [hv] at hpk
  dsimp only at hpk
  rw [Bool.and_eq_true] at hpk
  obtain ⟨hfin, hpk⟩ := hpk
  have hfin : (T b).2.2.2 = false := by simpa using hfin
  rcases st with _ | ⟨y1, st⟩
  · cases hs
  rcases st with _ | ⟨y2, st⟩
  · cases y1 <;> cases hs
  cases y2
  case ref q =>
    cases y1
    case int x =>
      cases v
      case int f =>
        replace hs : (if f = 0 ∨ x &&& 1 = x then match pf h q a b (.int x) with | some h' => nx lo st h' | none => none else none) = some (Sum.inl (j, lo', st', h')) := hs
        by_cases hc : f = 0 ∨ x &&& 1 = x
        · rw [if_pos hc] at hs
          cases hg : pf h q a b (.int x) with
          | none => rw [hg] at hs; cases hs
          | some h2 =>
            rw [hg] at hs
            cases (show some (Sum.inl (none, lo, st, h2)) = some (Sum.inl (j, lo', st', h')) from hs)
            obtain ⟨fs, hq, hfb, rfl⟩ := pf_inv hg
            have hq61 : q < 61 := lt61 hj hq (fun z => by cases z; simp at hfb)
            have he : (wsA G h)[q]? = some (G.1 q, .inr (a, fs.map (cv G.1))) := by rw [wsA_at hq61, hq]; rfl
            have hsm : ((G.1 q, .inr (a, (fs.map (cv G.1)).set b (.int x))) : Nat × va_E) = (G.1 q, cnc G (aO a (fs.set b (.int x)))) := by
              show _ = (G.1 q, Sum.inr (a, (fs.set b (.int x)).map (cv G.1)))
              rw [List.map_set]; rfl
            cases htp : parseFieldDescriptor (T b).2.2.1 with
            | none => rw [htp] at hpk; cases hpk
            | some ty =>
              rw [htp] at hpk
              cases ty
              case int =>
                exact va_put (D := D) hx hb hts hin ty0 hty hnm hown hK hP hD hS q he hv b hbN (hts _ hlk) (fun _ z => z) hfin htp rfl rfl (by rw [List.length_map]; exact hfb) hd (fun H1 locs1 h1 h2 h3 => kk H1 locs1 ls (WD_put hj hq61 (hsm ▸ h1) (hsm ▸ h2) h3) hl)
              case boolean =>
                have hf1 : f = 1 := by simpa using hpk
                have hxx : x &&& 1 = x := hc.resolve_left (by rw [hf1]; decide)
                exact va_put (D := D) hx hb hts hin ty0 hty hnm hown hK hP hD hS q he hv b hbN (hts _ hlk) (fun _ z => z) hfin htp (show Value.int (x &&& 1) = .int x by rw [hxx]) (b1_fit hxx) (by rw [List.length_map]; exact hfb) hd (fun H1 locs1 h1 h2 h3 => kk H1 locs1 ls (WD_put hj hq61 (hsm ▸ h1) (hsm ▸ h2) h3) hl)
              all_goals (exact absurd hpk (by simp))
        · rw [if_neg hc] at hs; cases hs
      all_goals (cases hs)
    case long x =>
      cases v
      case long f =>
        replace hs : (match pf h q a b (.long x) with | some h' => nx lo st h' | none => none) = some (Sum.inl (j, lo', st', h')) := hs
        cases hg : pf h q a b (.long x) with
        | none => rw [hg] at hs; cases hs
        | some h2 =>
          rw [hg] at hs
          cases (show some (Sum.inl (none, lo, st, h2)) = some (Sum.inl (j, lo', st', h')) from hs)
          obtain ⟨fs, hq, hfb, rfl⟩ := pf_inv hg
          have hq61 : q < 61 := lt61 hj hq (fun z => by cases z; simp at hfb)
          have he : (wsA G h)[q]? = some (G.1 q, .inr (a, fs.map (cv G.1))) := by rw [wsA_at hq61, hq]; rfl
          have hsm : ((G.1 q, .inr (a, (fs.map (cv G.1)).set b (.long x))) : Nat × va_E) = (G.1 q, cnc G (aO a (fs.set b (.long x)))) := by
            show _ = (G.1 q, Sum.inr (a, (fs.set b (.long x)).map (cv G.1)))
            rw [List.map_set]; rfl
          cases htp : parseFieldDescriptor (T b).2.2.1 with
          | none => rw [htp] at hpk; cases hpk
          | some ty =>
            rw [htp] at hpk
            cases ty
            case long =>
              exact va_put (D := D) hx hb hts hin ty0 hty hnm hown hK hP hD hS q he hv b hbN (hts _ hlk) (fun _ z => z) hfin htp rfl rfl (by rw [List.length_map]; exact hfb) hd (fun H1 locs1 h1 h2 h3 => kk H1 locs1 ls (WD_put hj hq61 (hsm ▸ h1) (hsm ▸ h2) h3) hl)
            all_goals (exact absurd hpk (by simp))
      all_goals (cases hs)
    all_goals (cases hs)
  all_goals (cases y1 <;> cases hs)
set_option maxHeartbeats 2000000 in
set_option maxRecDepth 100000 in
theorem q_iaload {p : Program} {l : Launch} {e : Env} {R : Room} {s : State} {m : MethodId} {args : Array Value} {below : List Frame} {meth : Method} {c : Code} {A : Nat → Prop} {H0 : Heap} {cells slots : Nat} {Qf : State → Prop} {D : va_G} {G : GA} {k : Nat} {X : SX} (C : CX k X G D p s m args c R A H0 cells slots) {pc ln op a b : Nat} {v : Value} {ts : List (Int32 × Nat)} {lo lo' : Lo} {st st' : List Value} {h h' : AH} {j : Option Nat} (hs : stp X (pc, ln, op, a, b, v, ts) lo st h = some (.inl (j, lo', st', h')))  (hd : decode (byt k) pc = .ok (.iaload, ln)) (hm : mOp k pc ln op a b v ts (.iaload) = true) (kk : KKt p l e R s m args below meth c A H0 cells slots Qf D G k h' lo' st' (nxt (pc, ln, op, a, b, v, ts) j)) : KKt p l e R s m args below meth c A H0 cells slots Qf D G k h lo st pc := by
  intro H locs ls hw hl
  obtain ⟨hx, hb, hml, hown, hts, hnw, hK, hR, hA, hX⟩ := C
  obtain ⟨hP, hD, hS, hj⟩ := id hw
  obtain ⟨rfl, rfl⟩ := of_decide_eq_true hm
  rcases st with _ | ⟨y1, st⟩
  · cases hs
  rcases st with _ | ⟨y2, st⟩
  · cases y1 <;> cases hs
  cases y1
  case int i =>
    cases y2
    case ref q =>
      replace hs : (match rI X h q i with | some x => nx lo (.int x :: st) h | none => none) = some (Sum.inl (j, lo', st', h')) := hs
      unfold rI at hs
      cases hq : h q with
      | inl nf =>
        obtain ⟨n, f⟩ := nf
        rw [hq] at hs
        dsimp only at hs
        by_cases hi : i < 0 ∨ n ≤ i.toNatClampNeg
        · rw [if_pos hi] at hs; cases hs
        · rw [if_neg hi] at hs
          cases (show some (Sum.inl (none, lo, .int (f i.toNatClampNeg) :: st, h)) = some (Sum.inl (j, lo', st', h')) from hs)
          have hq61 : q < 61 := lt61 hj hq (fun z => by cases z)
          exact va_iald hx hb hK hP q 0 (by rw [wsA_at hq61, hq]; rfl) rfl hi hd (kk H locs ls hw hl)
      | inr C1 =>
        rw [hq] at hs
        rcases X with _ | ⟨L, xs⟩
        · cases hs
        · dsimp only at hs
          by_cases hq2 : q = 61
          · rw [if_pos hq2] at hs
            by_cases hi : i < 0 ∨ L ≤ i.toNatClampNeg
            · rw [if_pos hi] at hs; cases hs
            · rw [if_neg hi] at hs
              cases (show some (Sum.inl (none, lo, .int (xs i.toNatClampNeg) :: st, h)) = some (Sum.inl (j, lo', st', h')) from hs)
              obtain ⟨x1, x2, x3⟩ := hX L xs rfl
              subst hq2
              exact va_sld hx hb x1 x2 x3 hS hi hd (kk H locs ls hw hl)
          · rw [if_neg hq2] at hs; cases hs
    all_goals (cases hs)
  all_goals (cases y2 <;> cases hs)
set_option maxHeartbeats 2000000 in
set_option maxRecDepth 100000 in
theorem q_laload {p : Program} {l : Launch} {e : Env} {R : Room} {s : State} {m : MethodId} {args : Array Value} {below : List Frame} {meth : Method} {c : Code} {A : Nat → Prop} {H0 : Heap} {cells slots : Nat} {Qf : State → Prop} {D : va_G} {G : GA} {k : Nat} {X : SX} (C : CX k X G D p s m args c R A H0 cells slots) {pc ln op a b : Nat} {v : Value} {ts : List (Int32 × Nat)} {lo lo' : Lo} {st st' : List Value} {h h' : AH} {j : Option Nat} (hs : stp X (pc, ln, op, a, b, v, ts) lo st h = some (.inl (j, lo', st', h')))  (hd : decode (byt k) pc = .ok (.laload, ln)) (hm : mOp k pc ln op a b v ts (.laload) = true) (kk : KKt p l e R s m args below meth c A H0 cells slots Qf D G k h' lo' st' (nxt (pc, ln, op, a, b, v, ts) j)) : KKt p l e R s m args below meth c A H0 cells slots Qf D G k h lo st pc := by
  intro H locs ls hw hl
  obtain ⟨hx, hb, hml, hown, hts, hnw, hK, hR, hA, hX⟩ := C
  obtain ⟨hP, hD, hS, hj⟩ := id hw
  obtain ⟨rfl, rfl⟩ := of_decide_eq_true hm
  rcases st with _ | ⟨y1, st⟩
  · cases hs
  rcases st with _ | ⟨y2, st⟩
  · cases y1 <;> cases hs
  cases y1
  case int i =>
    cases y2
    case ref q =>
      replace hs : (match rJ h q i with | some x => nx lo (.long x :: st) h | none => none) = some (Sum.inl (j, lo', st', h')) := hs
      unfold rJ at hs
      rcases hq : h q with ⟨n, f⟩ | ⟨n, f⟩ | ⟨n, f⟩ | ⟨n, f⟩ | ⟨n, f⟩
      all_goals (rw [hq] at hs)
      all_goals try (cases hs; done)
      dsimp only at hs
      by_cases hi : i < 0 ∨ n ≤ i.toNatClampNeg
      · rw [if_pos hi] at hs; cases hs
      · rw [if_neg hi] at hs
        have hq61 : q < 61 := lt61 hj hq (fun z => by cases z)
        cases (show some (Sum.inl (none, lo, .long (f i.toNatClampNeg) :: st, h)) = some (Sum.inl (j, lo', st', h')) from hs)
        exact va_lald hx hb hK hP q 1 (by rw [wsA_at hq61, hq]; rfl) rfl hi hd (kk H locs ls hw hl)
    all_goals (cases hs)
  all_goals (cases y2 <;> cases hs)
set_option maxHeartbeats 2000000 in
set_option maxRecDepth 100000 in
theorem q_baload {p : Program} {l : Launch} {e : Env} {R : Room} {s : State} {m : MethodId} {args : Array Value} {below : List Frame} {meth : Method} {c : Code} {A : Nat → Prop} {H0 : Heap} {cells slots : Nat} {Qf : State → Prop} {D : va_G} {G : GA} {k : Nat} {X : SX} (C : CX k X G D p s m args c R A H0 cells slots) {pc ln op a b : Nat} {v : Value} {ts : List (Int32 × Nat)} {lo lo' : Lo} {st st' : List Value} {h h' : AH} {j : Option Nat} (hs : stp X (pc, ln, op, a, b, v, ts) lo st h = some (.inl (j, lo', st', h')))  (hd : decode (byt k) pc = .ok (.baload, ln)) (hm : mOp k pc ln op a b v ts (.baload) = true) (kk : KKt p l e R s m args below meth c A H0 cells slots Qf D G k h' lo' st' (nxt (pc, ln, op, a, b, v, ts) j)) : KKt p l e R s m args below meth c A H0 cells slots Qf D G k h lo st pc := by
  intro H locs ls hw hl
  obtain ⟨hx, hb, hml, hown, hts, hnw, hK, hR, hA, hX⟩ := C
  obtain ⟨hP, hD, hS, hj⟩ := id hw
  obtain ⟨rfl, rfl⟩ := of_decide_eq_true hm
  rcases st with _ | ⟨y1, st⟩
  · cases hs
  rcases st with _ | ⟨y2, st⟩
  · cases y1 <;> cases hs
  cases y1
  case int i =>
    cases y2
    case ref q =>
      replace hs : (match rB h q i with | some x => nx lo (.int x :: st) h | none => none) = some (Sum.inl (j, lo', st', h')) := hs
      unfold rB at hs
      rcases hq : h q with ⟨n, f⟩ | ⟨n, f⟩ | ⟨n, f⟩ | ⟨n, f⟩ | ⟨n, f⟩
      all_goals (rw [hq] at hs)
      all_goals try (cases hs; done)
      dsimp only at hs
      by_cases hi : i < 0 ∨ n ≤ i.toNatClampNeg
      · rw [if_pos hi] at hs; cases hs
      · rw [if_neg hi] at hs
        have hq61 : q < 61 := lt61 hj hq (fun z => by cases z)
        cases (show some (Sum.inl (none, lo, .int (f i.toNatClampNeg) :: st, h)) = some (Sum.inl (j, lo', st', h')) from hs)
        exact va_bald hx hb hK hP q 2 (by rw [wsA_at hq61, hq]; rfl) rfl hi hd (kk H locs ls hw hl)
    all_goals (cases hs)
  all_goals (cases y2 <;> cases hs)
set_option maxHeartbeats 2000000 in
set_option maxRecDepth 100000 in
theorem q_aaload {p : Program} {l : Launch} {e : Env} {R : Room} {s : State} {m : MethodId} {args : Array Value} {below : List Frame} {meth : Method} {c : Code} {A : Nat → Prop} {H0 : Heap} {cells slots : Nat} {Qf : State → Prop} {D : va_G} {G : GA} {k : Nat} {X : SX} (C : CX k X G D p s m args c R A H0 cells slots) {pc ln op a b : Nat} {v : Value} {ts : List (Int32 × Nat)} {lo lo' : Lo} {st st' : List Value} {h h' : AH} {j : Option Nat} (hs : stp X (pc, ln, op, a, b, v, ts) lo st h = some (.inl (j, lo', st', h')))  (hd : decode (byt k) pc = .ok (.aaload, ln)) (hm : mOp k pc ln op a b v ts (.aaload) = true) (kk : KKt p l e R s m args below meth c A H0 cells slots Qf D G k h' lo' st' (nxt (pc, ln, op, a, b, v, ts) j)) : KKt p l e R s m args below meth c A H0 cells slots Qf D G k h lo st pc := by
  intro H locs ls hw hl
  obtain ⟨hx, hb, hml, hown, hts, hnw, hK, hR, hA, hX⟩ := C
  obtain ⟨hP, hD, hS, hj⟩ := id hw
  obtain ⟨rfl, rfl⟩ := of_decide_eq_true hm
  rcases st with _ | ⟨y1, st⟩
  · cases hs
  rcases st with _ | ⟨y2, st⟩
  · cases y1 <;> cases hs
  cases y1
  case int i =>
    cases y2
    case ref q =>
      replace hs : (match rR h q i with | some x => nx lo (.ref x :: st) h | none => none) = some (Sum.inl (j, lo', st', h')) := hs
      unfold rR at hs
      rcases hq : h q with ⟨n, f⟩ | ⟨n, f⟩ | ⟨n, f⟩ | ⟨n, f⟩ | ⟨n, f⟩
      all_goals (rw [hq] at hs)
      all_goals try (cases hs; done)
      dsimp only at hs
      by_cases hi : i < 0 ∨ n ≤ i.toNatClampNeg
      · rw [if_pos hi] at hs; cases hs
      · rw [if_neg hi] at hs
        have hq61 : q < 61 := lt61 hj hq (fun z => by cases z)
        cases hfi : f i.toNatClampNeg with
        | none => rw [hfi] at hs; cases hs
        | some y =>
          rw [hfi] at hs
          cases (show some (Sum.inl (none, lo, .ref y :: st, h)) = some (Sum.inl (j, lo', st', h')) from hs)
          refine va_aldq (C := RX1) hx hb hK hP q 3 (f := fun j => (f j).map G.1) (by rw [wsA_at hq61, hq]; rfl) rfl hi hd ?_
          have kk := kk H locs ls hw hl
          rw [show va_rf ((fun j => (f j).map G.1) i.toNatClampNeg) = Value.ref (G.1 y) by show va_rf ((f i.toNatClampNeg).map G.1) = _; rw [hfi]; rfl]
          exact kk
    all_goals (cases hs)
  all_goals (cases y2 <;> cases hs)
set_option maxHeartbeats 2000000 in
set_option maxRecDepth 100000 in
theorem q_iastore {p : Program} {l : Launch} {e : Env} {R : Room} {s : State} {m : MethodId} {args : Array Value} {below : List Frame} {meth : Method} {c : Code} {A : Nat → Prop} {H0 : Heap} {cells slots : Nat} {Qf : State → Prop} {D : va_G} {G : GA} {k : Nat} {X : SX} (C : CX k X G D p s m args c R A H0 cells slots) {pc ln op a b : Nat} {v : Value} {ts : List (Int32 × Nat)} {lo lo' : Lo} {st st' : List Value} {h h' : AH} {j : Option Nat} (hs : stp X (pc, ln, op, a, b, v, ts) lo st h = some (.inl (j, lo', st', h')))  (hd : decode (byt k) pc = .ok (.iastore, ln)) (hm : mOp k pc ln op a b v ts (.iastore) = true) (kk : KKt p l e R s m args below meth c A H0 cells slots Qf D G k h' lo' st' (nxt (pc, ln, op, a, b, v, ts) j)) : KKt p l e R s m args below meth c A H0 cells slots Qf D G k h lo st pc := by
  intro H locs ls hw hl
  obtain ⟨hx, hb, hml, hown, hts, hnw, hK, hR, hA, hX⟩ := C
  obtain ⟨hP, hD, hS, hj⟩ := id hw
  obtain ⟨rfl, rfl⟩ := of_decide_eq_true hm
  rcases st with _ | ⟨y1, st⟩
  · cases hs
  rcases st with _ | ⟨y2, st⟩
  · cases y1 <;> cases hs
  rcases st with _ | ⟨y3, st⟩
  · cases y1 <;> cases y2 <;> cases hs
  cases y1
  case int x =>
    cases y2
    case int i =>
      cases y3
      case ref q =>
        replace hs : (match wI h q i x with | some h' => nx lo st h' | none => none) = some (Sum.inl (j, lo', st', h')) := hs
        unfold wI at hs
        rcases hq : h q with ⟨n, f⟩ | ⟨n, f⟩ | ⟨n, f⟩ | ⟨n, f⟩ | ⟨n, f⟩
        all_goals (rw [hq] at hs)
        all_goals try (cases hs; done)
        dsimp only at hs
        by_cases hi : i < 0 ∨ n ≤ i.toNatClampNeg
        · rw [if_pos hi] at hs; cases hs
        · rw [if_neg hi] at hs
          have hq61 : q < 61 := lt61 hj hq (fun z => by cases z)
          cases (show some (Sum.inl (none, lo, st, uH h q (aI n (upd f i.toNatClampNeg x)))) = some (Sum.inl (j, lo', st', h')) from hs)
          exact va_iast hx hb hK hP hD hS q 0 (by rw [wsA_at hq61, hq]; rfl) rfl hi hd (fun H1 locs1 h1 h2 h3 => kk H1 locs1 ls (WD_put hj hq61 h1 h2 h3) hl)
      all_goals (cases hs)
    all_goals (cases y3 <;> cases hs)
  all_goals (cases y2 <;> cases y3 <;> cases hs)
set_option maxHeartbeats 2000000 in
set_option maxRecDepth 100000 in
theorem q_lastore {p : Program} {l : Launch} {e : Env} {R : Room} {s : State} {m : MethodId} {args : Array Value} {below : List Frame} {meth : Method} {c : Code} {A : Nat → Prop} {H0 : Heap} {cells slots : Nat} {Qf : State → Prop} {D : va_G} {G : GA} {k : Nat} {X : SX} (C : CX k X G D p s m args c R A H0 cells slots) {pc ln op a b : Nat} {v : Value} {ts : List (Int32 × Nat)} {lo lo' : Lo} {st st' : List Value} {h h' : AH} {j : Option Nat} (hs : stp X (pc, ln, op, a, b, v, ts) lo st h = some (.inl (j, lo', st', h')))  (hd : decode (byt k) pc = .ok (.lastore, ln)) (hm : mOp k pc ln op a b v ts (.lastore) = true) (kk : KKt p l e R s m args below meth c A H0 cells slots Qf D G k h' lo' st' (nxt (pc, ln, op, a, b, v, ts) j)) : KKt p l e R s m args below meth c A H0 cells slots Qf D G k h lo st pc := by
  intro H locs ls hw hl
  obtain ⟨hx, hb, hml, hown, hts, hnw, hK, hR, hA, hX⟩ := C
  obtain ⟨hP, hD, hS, hj⟩ := id hw
  obtain ⟨rfl, rfl⟩ := of_decide_eq_true hm
  rcases st with _ | ⟨y1, st⟩
  · cases hs
  rcases st with _ | ⟨y2, st⟩
  · cases y1 <;> cases hs
  rcases st with _ | ⟨y3, st⟩
  · cases y1 <;> cases y2 <;> cases hs
  cases y1
  case long x =>
    cases y2
    case int i =>
      cases y3
      case ref q =>
        replace hs : (match wJ h q i x with | some h' => nx lo st h' | none => none) = some (Sum.inl (j, lo', st', h')) := hs
        unfold wJ at hs
        rcases hq : h q with ⟨n, f⟩ | ⟨n, f⟩ | ⟨n, f⟩ | ⟨n, f⟩ | ⟨n, f⟩
        all_goals (rw [hq] at hs)
        all_goals try (cases hs; done)
        dsimp only at hs
        by_cases hi : i < 0 ∨ n ≤ i.toNatClampNeg
        · rw [if_pos hi] at hs; cases hs
        · rw [if_neg hi] at hs
          have hq61 : q < 61 := lt61 hj hq (fun z => by cases z)
          cases (show some (Sum.inl (none, lo, st, uH h q (aJ n (vp_updL f i.toNatClampNeg x)))) = some (Sum.inl (j, lo', st', h')) from hs)
          exact va_last hx hb hK hP hD hS q 1 (by rw [wsA_at hq61, hq]; rfl) rfl hi hd (fun H1 locs1 h1 h2 h3 => kk H1 locs1 ls (WD_put hj hq61 h1 h2 h3) hl)
      all_goals (cases hs)
    all_goals (cases y3 <;> cases hs)
  all_goals (cases y2 <;> cases y3 <;> cases hs)
set_option maxHeartbeats 2000000 in
set_option maxRecDepth 100000 in
theorem q_bastore {p : Program} {l : Launch} {e : Env} {R : Room} {s : State} {m : MethodId} {args : Array Value} {below : List Frame} {meth : Method} {c : Code} {A : Nat → Prop} {H0 : Heap} {cells slots : Nat} {Qf : State → Prop} {D : va_G} {G : GA} {k : Nat} {X : SX} (C : CX k X G D p s m args c R A H0 cells slots) {pc ln op a b : Nat} {v : Value} {ts : List (Int32 × Nat)} {lo lo' : Lo} {st st' : List Value} {h h' : AH} {j : Option Nat} (hs : stp X (pc, ln, op, a, b, v, ts) lo st h = some (.inl (j, lo', st', h')))  (hd : decode (byt k) pc = .ok (.bastore, ln)) (hm : mOp k pc ln op a b v ts (.bastore) = true) (kk : KKt p l e R s m args below meth c A H0 cells slots Qf D G k h' lo' st' (nxt (pc, ln, op, a, b, v, ts) j)) : KKt p l e R s m args below meth c A H0 cells slots Qf D G k h lo st pc := by
  intro H locs ls hw hl
  obtain ⟨hx, hb, hml, hown, hts, hnw, hK, hR, hA, hX⟩ := C
  obtain ⟨hP, hD, hS, hj⟩ := id hw
  obtain ⟨rfl, rfl⟩ := of_decide_eq_true hm
  rcases st with _ | ⟨y1, st⟩
  · cases hs
  rcases st with _ | ⟨y2, st⟩
  · cases y1 <;> cases hs
  rcases st with _ | ⟨y3, st⟩
  · cases y1 <;> cases y2 <;> cases hs
  cases y1
  case int x =>
    cases y2
    case int i =>
      cases y3
      case ref q =>
        replace hs : (match wB h q i x with | some h' => nx lo st h' | none => none) = some (Sum.inl (j, lo', st', h')) := hs
        unfold wB at hs
        rcases hq : h q with ⟨n, f⟩ | ⟨n, f⟩ | ⟨n, f⟩ | ⟨n, f⟩ | ⟨n, f⟩
        all_goals (rw [hq] at hs)
        all_goals try (cases hs; done)
        dsimp only at hs
        by_cases hi : i < 0 ∨ n ≤ i.toNatClampNeg
        · rw [if_pos hi] at hs; cases hs
        · rw [if_neg hi] at hs
          have hq61 : q < 61 := lt61 hj hq (fun z => by cases z)
          cases (show some (Sum.inl (none, lo, st, uH h q (aB n (upd f i.toNatClampNeg (vp_nar .byte x))))) = some (Sum.inl (j, lo', st', h')) from hs)
          exact va_bast hx hb hK hP hD hS q 2 (by rw [wsA_at hq61, hq]; rfl) rfl hi hd (fun H1 locs1 h1 h2 h3 => kk H1 locs1 ls (WD_put hj hq61 h1 h2 h3) hl)
      all_goals (cases hs)
    all_goals (cases y3 <;> cases hs)
  all_goals (cases y2 <;> cases y3 <;> cases hs)
set_option maxHeartbeats 2000000 in
set_option maxRecDepth 100000 in
theorem q_arraylength {p : Program} {l : Launch} {e : Env} {R : Room} {s : State} {m : MethodId} {args : Array Value} {below : List Frame} {meth : Method} {c : Code} {A : Nat → Prop} {H0 : Heap} {cells slots : Nat} {Qf : State → Prop} {D : va_G} {G : GA} {k : Nat} {X : SX} (C : CX k X G D p s m args c R A H0 cells slots) {pc ln op a b : Nat} {v : Value} {ts : List (Int32 × Nat)} {lo lo' : Lo} {st st' : List Value} {h h' : AH} {j : Option Nat} (hs : stp X (pc, ln, op, a, b, v, ts) lo st h = some (.inl (j, lo', st', h')))  (hd : decode (byt k) pc = .ok (.arraylength, ln)) (hm : mOp k pc ln op a b v ts (.arraylength) = true) (kk : KKt p l e R s m args below meth c A H0 cells slots Qf D G k h' lo' st' (nxt (pc, ln, op, a, b, v, ts) j)) : KKt p l e R s m args below meth c A H0 cells slots Qf D G k h lo st pc := by
  intro H locs ls hw hl
  obtain ⟨hx, hb, hml, hown, hts, hnw, hK, hR, hA, hX⟩ := C
  obtain ⟨hP, hD, hS, hj⟩ := id hw
  obtain ⟨rfl, rfl⟩ := of_decide_eq_true hm
  rcases st with _ | ⟨y1, st⟩
  · cases hs
  cases y1
  case ref q =>
    replace hs : (match lnA X h q with | some n => nx lo (.int (Int32.ofNat n) :: st) h | none => none) = some (Sum.inl (j, lo', st', h')) := hs
    unfold lnA at hs
    cases hq : h q with
    | inl nf =>
      obtain ⟨n, f⟩ := nf
      rw [hq] at hs
      cases (show some (Sum.inl (none, lo, .int (Int32.ofNat n) :: st, h)) = some (Sum.inl (j, lo', st', h')) from hs)
      have hq61 : q < 61 := lt61 hj hq (fun z => by cases z)
      exact va_alen (x := (n, .inl f)) hx hb hK hP q 0 (by rw [wsA_at hq61, hq]; rfl) (ty := .int) rfl rfl hd (kk H locs ls hw hl)
    | inr C1 =>
      rw [hq] at hs
      rcases X with _ | ⟨L, xs⟩
      · cases hs
      · dsimp only at hs
        by_cases hq2 : q = 61
        · rw [if_pos hq2] at hs
          cases (show some (Sum.inl (none, lo, .int (Int32.ofNat L) :: st, h)) = some (Sum.inl (j, lo', st', h')) from hs)
          obtain ⟨x1, x2, x3⟩ := hX L xs rfl
          subst hq2
          exact va_slen hx hb x1 x2 x3 hS hd (kk H locs ls hw hl)
        · rw [if_neg hq2] at hs; cases hs
  all_goals (cases hs)
set_option maxHeartbeats 2000000 in
set_option maxRecDepth 100000 in
theorem q_invokevirtual {p : Program} {l : Launch} {e : Env} {R : Room} {s : State} {m : MethodId} {args : Array Value} {below : List Frame} {meth : Method} {c : Code} {A : Nat → Prop} {H0 : Heap} {cells slots : Nat} {Qf : State → Prop} {D : va_G} {G : GA} {k : Nat} {X : SX} (C : CX k X G D p s m args c R A H0 cells slots) {pc ln op a b : Nat} {v : Value} {ts : List (Int32 × Nat)} {lo lo' : Lo} {st st' : List Value} {h h' : AH} {j : Option Nat} (hs : stp X (pc, ln, op, a, b, v, ts) lo st h = some (.inl (j, lo', st', h'))) {i : Nat} (hd : decode (byt k) pc = .ok (.invokevirtual i, ln)) (hm : mOp k pc ln op a b v ts (.invokevirtual i) = true) (kk : KKt p l e R s m args below meth c A H0 cells slots Qf D G k h' lo' st' (nxt (pc, ln, op, a, b, v, ts) j)) : KKt p l e R s m args below meth c A H0 cells slots Qf D G k h lo st pc := by
  intro H locs ls hw hl
  obtain ⟨hx, hb, hml, hown, hts, hnw, hK, hR, hA, hX⟩ := C
  obtain ⟨hP, hD, hS, hj⟩ := id hw
  obtain ⟨rfl, -, -, rfl, rfl⟩ := of_decide_eq_true hm
  replace hs : s37 a b (own a) st h = _ := hs
  unfold s37 at hs
  split at hs
  · split at hs
    · split at hs
      · split at hs <;> cases hs
      · cases hs
    · cases hs
  · cases hs
set_option maxHeartbeats 2000000 in
set_option maxRecDepth 100000 in
theorem q_invokestatic {p : Program} {l : Launch} {e : Env} {R : Room} {s : State} {m : MethodId} {args : Array Value} {below : List Frame} {meth : Method} {c : Code} {A : Nat → Prop} {H0 : Heap} {cells slots : Nat} {Qf : State → Prop} {D : va_G} {G : GA} {k : Nat} {X : SX} (C : CX k X G D p s m args c R A H0 cells slots) {pc ln op a b : Nat} {v : Value} {ts : List (Int32 × Nat)} {lo lo' : Lo} {st st' : List Value} {h h' : AH} {j : Option Nat} (hs : stp X (pc, ln, op, a, b, v, ts) lo st h = some (.inl (j, lo', st', h'))) {i : Nat} (hd : decode (byt k) pc = .ok (.invokestatic i, ln)) (hm : mOp k pc ln op a b v ts (.invokestatic i) = true) (kk : KKt p l e R s m args below meth c A H0 cells slots Qf D G k h' lo' st' (nxt (pc, ln, op, a, b, v, ts) j)) : KKt p l e R s m args below meth c A H0 cells slots Qf D G k h lo st pc := by
  intro H locs ls hw hl
  obtain ⟨hx, hb, hml, hown, hts, hnw, hK, hR, hA, hX⟩ := C
  obtain ⟨hP, hD, hS, hj⟩ := id hw
  simp only [mOp, Bool.or_eq_true] at hm
  rcases hm with hm | hm | hm | hm | hm
  · obtain ⟨rfl, -, -, rfl⟩ := of_decide_eq_true hm
    replace hs : s28 a b lo st h = _ := hs
    unfold s28 at hs
    split at hs <;> cases hs
  · obtain ⟨rfl, hc, h1, h2, rfl⟩ := of_decide_eq_true hm
    obtain ⟨m1, m2, m3, m4⟩ := metOK _ hc
    replace hs : s29 lo st h = _ := hs
    unfold s29 at hs
    split at hs
    · rename_i n dp q sp q0
      cases hg : cpA h q0 q sp dp n with
      | none => rw [hg] at hs; cases hs
      | some h2 =>
        rw [hg] at hs
        cases (show some (Sum.inl (none, lo, [], h2)) = some (Sum.inl (j, lo', st', h')) from hs)
        unfold cpA at hg
        have hfr : 1 ≤ R.frames := Nat.le_trans h1 hR.1
        have hlc : (([] : List Value).map fun v => v.category).sum + (nativeFrameWords "java/lang/System" "arraycopy" 5 + 11) ≤ R.locals := Nat.le_trans (by decide) (Nat.le_trans h2 hR.2.1)
        rcases hq0 : h q0 with ⟨n0, f⟩ | ⟨n0, f⟩ | C0 <;> rcases hq : h q with ⟨n1, g⟩ | ⟨n1, g⟩ | C1
        all_goals (rw [hq0, hq] at hg)
        all_goals try (cases hg; done)
        · dsimp only at hg
          by_cases hi : sp < 0 ∨ dp < 0 ∨ n < 0 ∨ ¬ sp.toNatClampNeg + n.toNatClampNeg ≤ n0 ∨ ¬ dp.toNatClampNeg + n.toNatClampNeg ≤ n1
          · rw [if_pos hi] at hg; cases hg
          · rw [if_neg hi] at hg
            cases hg
            have hq61 : q < 61 := lt61 hj hq (fun z => by cases z)
            have hq061 : q0 < 61 := lt61 hj hq0 (fun z => by cases z)
            have i4 : sp.toNatClampNeg + n.toNatClampNeg ≤ n0 := Classical.byContradiction fun z => hi (Or.inr (Or.inr (Or.inr (Or.inl z))))
            have i5 : dp.toNatClampNeg + n.toNatClampNeg ≤ n1 := Classical.byContradiction fun z => hi (Or.inr (Or.inr (Or.inr (Or.inr z))))
            exact va_copyi (ty := .int) hx hb (hml.trans hl.1.symm) hown (hts _ (gw_of m1 rfl)) (hts _ (gw_of m2 rfl)) (hts _ (gw_of m3 rfl)) (hts _ (gw_of m4 rfl)) hK hP hD hS q0 q 0 0 (by rw [wsA_at hq061, hq0]; rfl) (by rw [wsA_at hq61, hq]; rfl) rfl rfl rfl (fun z => hi (Or.inl z)) (fun z => hi (Or.inr (Or.inl z))) (fun z => hi (Or.inr (Or.inr (Or.inl z)))) i4 i5 (fun _ _ => rfl) hfr hlc hd (fun H1 locs1 h1 h2 h3 => kk H1 locs1 ls (WD_put hj hq61 h1 h2 h3) hl)
        · dsimp only at hg
          by_cases hi : sp < 0 ∨ dp < 0 ∨ n < 0 ∨ ¬ sp.toNatClampNeg + n.toNatClampNeg ≤ n0 ∨ ¬ dp.toNatClampNeg + n.toNatClampNeg ≤ n1
          · rw [if_pos hi] at hg; cases hg
          · rw [if_neg hi] at hg
            cases hg
            have hq61 : q < 61 := lt61 hj hq (fun z => by cases z)
            have hq061 : q0 < 61 := lt61 hj hq0 (fun z => by cases z)
            have i4 : sp.toNatClampNeg + n.toNatClampNeg ≤ n0 := Classical.byContradiction fun z => hi (Or.inr (Or.inr (Or.inr (Or.inl z))))
            have i5 : dp.toNatClampNeg + n.toNatClampNeg ≤ n1 := Classical.byContradiction fun z => hi (Or.inr (Or.inr (Or.inr (Or.inr z))))
            exact va_copyl (ty := .long) hx hb (hml.trans hl.1.symm) hown (hts _ (gw_of m1 rfl)) (hts _ (gw_of m2 rfl)) (hts _ (gw_of m3 rfl)) (hts _ (gw_of m4 rfl)) hK hP hD hS q0 q 1 1 (by rw [wsA_at hq061, hq0]; rfl) (by rw [wsA_at hq61, hq]; rfl) rfl rfl rfl (fun z => hi (Or.inl z)) (fun z => hi (Or.inr (Or.inl z))) (fun z => hi (Or.inr (Or.inr (Or.inl z)))) i4 i5 (fun _ _ => rfl) hfr hlc hd (fun H1 locs1 h1 h2 h3 => kk H1 locs1 ls (WD_put hj hq61 h1 h2 h3) hl)
    · cases hs
  · obtain ⟨rfl, hc, h1, h2, rfl⟩ := of_decide_eq_true hm
    obtain ⟨m1, m2, m3, m4⟩ := metOK _ hc
    replace hs : s34 lo st h = _ := hs
    unfold s34 at hs
    split at hs
    · rename_i y x st2
      by_cases h4 : st2.length ≤ 4
      · rw [if_pos h4] at hs
        cases (show some (Sum.inl (none, lo, .int (if y < x then y else x) :: st2, h)) = some (Sum.inl (j, lo', st', h')) from hs)
        exact va_mmin hx hb (hml.trans hl.1.symm) hown (hts _ (gw_of m1 rfl)) (hts _ (gw_of m2 rfl)) (hts _ (gw_of m3 rfl)) (hts _ (gw_of m4 rfl)) (Nat.le_trans h1 hR.1) (by have := cats_le G.1 st2 h4; have := hR.2.1; omega) hR.2.2.1 hR.2.2.2 hd (kk H locs ls hw hl)
      · rw [if_neg h4] at hs; cases hs
    · cases hs
  · obtain ⟨rfl, hc, h1, h2, rfl⟩ := of_decide_eq_true hm
    obtain ⟨m1, m2, m3, m4⟩ := metOK _ hc
    replace hs : s35 lo st h = _ := hs
    unfold s35 at hs
    split at hs
    · rename_i y x st2
      by_cases h4 : st2.length ≤ 4
      · rw [if_pos h4] at hs
        cases (show some (Sum.inl (none, lo, .int (if x < y then y else x) :: st2, h)) = some (Sum.inl (j, lo', st', h')) from hs)
        exact va_mmax hx hb (hml.trans hl.1.symm) hown (hts _ (gw_of m1 rfl)) (hts _ (gw_of m2 rfl)) (hts _ (gw_of m3 rfl)) (hts _ (gw_of m4 rfl)) (Nat.le_trans h1 hR.1) (by have := cats_le G.1 st2 h4; have := hR.2.1; omega) hR.2.2.1 hR.2.2.2 hd (kk H locs ls hw hl)
      · rw [if_neg h4] at hs; cases hs
    · cases hs
  · obtain ⟨rfl, hc, h1, h2, rfl⟩ := of_decide_eq_true hm
    obtain ⟨m1, m2, m3, m4⟩ := metOK _ hc
    replace hs : s36 lo st h = _ := hs
    unfold s36 at hs
    split at hs
    · rename_i x st2
      by_cases h4 : st2.length ≤ 4
      · rw [if_pos h4] at hs
        cases (show some (Sum.inl (none, lo, .long (if 0 < x then x else -x) :: st2, h)) = some (Sum.inl (j, lo', st', h')) from hs)
        exact va_mabs_long hx hb (hml.trans hl.1.symm) hown (hts _ (gw_of m1 rfl)) (hts _ (gw_of m2 rfl)) (hts _ (gw_of m3 rfl)) (hts _ (gw_of m4 rfl)) (Nat.le_trans h1 hR.1) (by have := cats_le G.1 st2 h4; have := hR.2.1; omega) hR.2.2.1 hR.2.2.2 hd (kk H locs ls hw hl)
      · rw [if_neg h4] at hs; cases hs
    · cases hs
set_option maxHeartbeats 2000000 in
set_option maxRecDepth 100000 in
theorem q_ireturn {p : Program} {l : Launch} {e : Env} {R : Room} {s : State} {m : MethodId} {args : Array Value} {below : List Frame} {meth : Method} {c : Code} {A : Nat → Prop} {H0 : Heap} {cells slots : Nat} {Qf : State → Prop} {D : va_G} {G : GA} {k : Nat} {X : SX} (C : CX k X G D p s m args c R A H0 cells slots) {pc ln op a b : Nat} {v : Value} {ts : List (Int32 × Nat)} {lo lo' : Lo} {st st' : List Value} {h h' : AH} {j : Option Nat} (hs : stp X (pc, ln, op, a, b, v, ts) lo st h = some (.inl (j, lo', st', h')))  (hd : decode (byt k) pc = .ok (.ireturn, ln)) (hm : mOp k pc ln op a b v ts (.ireturn) = true) (kk : KKt p l e R s m args below meth c A H0 cells slots Qf D G k h' lo' st' (nxt (pc, ln, op, a, b, v, ts) j)) : KKt p l e R s m args below meth c A H0 cells slots Qf D G k h lo st pc := by
  intro H locs ls hw hl
  obtain ⟨hx, hb, hml, hown, hts, hnw, hK, hR, hA, hX⟩ := C
  obtain ⟨hP, hD, hS, hj⟩ := id hw
  obtain ⟨rfl, -, rfl⟩ := of_decide_eq_true hm
  replace hs : s30 b st = _ := hs
  unfold s30 at hs
  split at hs
  · split at hs <;> cases hs
  · cases hs
set_option maxHeartbeats 2000000 in
set_option maxRecDepth 100000 in
theorem q_lreturn {p : Program} {l : Launch} {e : Env} {R : Room} {s : State} {m : MethodId} {args : Array Value} {below : List Frame} {meth : Method} {c : Code} {A : Nat → Prop} {H0 : Heap} {cells slots : Nat} {Qf : State → Prop} {D : va_G} {G : GA} {k : Nat} {X : SX} (C : CX k X G D p s m args c R A H0 cells slots) {pc ln op a b : Nat} {v : Value} {ts : List (Int32 × Nat)} {lo lo' : Lo} {st st' : List Value} {h h' : AH} {j : Option Nat} (hs : stp X (pc, ln, op, a, b, v, ts) lo st h = some (.inl (j, lo', st', h')))  (hd : decode (byt k) pc = .ok (.lreturn, ln)) (hm : mOp k pc ln op a b v ts (.lreturn) = true) (kk : KKt p l e R s m args below meth c A H0 cells slots Qf D G k h' lo' st' (nxt (pc, ln, op, a, b, v, ts) j)) : KKt p l e R s m args below meth c A H0 cells slots Qf D G k h lo st pc := by
  intro H locs ls hw hl
  obtain ⟨hx, hb, hml, hown, hts, hnw, hK, hR, hA, hX⟩ := C
  obtain ⟨hP, hD, hS, hj⟩ := id hw
  obtain ⟨rfl, -, rfl⟩ := of_decide_eq_true hm
  replace hs : s31 st = _ := hs
  unfold s31 at hs
  split at hs <;> cases hs
set_option maxHeartbeats 2000000 in
set_option maxRecDepth 100000 in
theorem q_return_ {p : Program} {l : Launch} {e : Env} {R : Room} {s : State} {m : MethodId} {args : Array Value} {below : List Frame} {meth : Method} {c : Code} {A : Nat → Prop} {H0 : Heap} {cells slots : Nat} {Qf : State → Prop} {D : va_G} {G : GA} {k : Nat} {X : SX} (C : CX k X G D p s m args c R A H0 cells slots) {pc ln op a b : Nat} {v : Value} {ts : List (Int32 × Nat)} {lo lo' : Lo} {st st' : List Value} {h h' : AH} {j : Option Nat} (hs : stp X (pc, ln, op, a, b, v, ts) lo st h = some (.inl (j, lo', st', h')))  (hd : decode (byt k) pc = .ok (.return_, ln)) (hm : mOp k pc ln op a b v ts (.return_) = true) (kk : KKt p l e R s m args below meth c A H0 cells slots Qf D G k h' lo' st' (nxt (pc, ln, op, a, b, v, ts) j)) : KKt p l e R s m args below meth c A H0 cells slots Qf D G k h lo st pc := by
  intro H locs ls hw hl
  obtain ⟨hx, hb, hml, hown, hts, hnw, hK, hR, hA, hX⟩ := C
  obtain ⟨hP, hD, hS, hj⟩ := id hw
  obtain ⟨rfl, -, rfl⟩ := of_decide_eq_true hm
  replace hs : s32 st = _ := hs
  unfold s32 at hs
  split at hs <;> cases hs
set_option maxHeartbeats 2000000 in
set_option maxRecDepth 100000 in
theorem q_tableswitch {p : Program} {l : Launch} {e : Env} {R : Room} {s : State} {m : MethodId} {args : Array Value} {below : List Frame} {meth : Method} {c : Code} {A : Nat → Prop} {H0 : Heap} {cells slots : Nat} {Qf : State → Prop} {D : va_G} {G : GA} {k : Nat} {X : SX} (C : CX k X G D p s m args c R A H0 cells slots) {pc ln op a b : Nat} {v : Value} {ts : List (Int32 × Nat)} {lo lo' : Lo} {st st' : List Value} {h h' : AH} {j : Option Nat} (hs : stp X (pc, ln, op, a, b, v, ts) lo st h = some (.inl (j, lo', st', h'))) {d : Int} {lo1 : Int} {hi1 : Int} {offs : Array Int} (hd : decode (byt k) pc = .ok (.tableswitch d lo1 hi1 offs, ln)) (hm : mOp k pc ln op a b v ts (.tableswitch d lo1 hi1 offs) = true) (kk : KKt p l e R s m args below meth c A H0 cells slots Qf D G k h' lo' st' (nxt (pc, ln, op, a, b, v, ts) j)) : KKt p l e R s m args below meth c A H0 cells slots Qf D G k h lo st pc := by
  intro H locs ls hw hl
  obtain ⟨hx, hb, hml, hown, hts, hnw, hK, hR, hA, hX⟩ := C
  obtain ⟨hP, hD, hS, hj⟩ := id hw
  obtain ⟨rfl, ha, rfl, hhi, hlo, hhi2, hnn⟩ := of_decide_eq_true hm
  rcases st with _ | ⟨y1, st⟩
  · cases hs
  cases y1
  case int x =>
    cases (show some (Sum.inl (some (swT x a (tsw pc lo1 offs.toList)), lo, st, h)) = some (Sum.inl (j, lo', st', h')) from hs)
    have hlen : (offs.toList.length : Int) = offs.size := by rw [Array.length_toList]
    obtain ⟨i1, i2⟩ := tsw_in pc a x offs.toList lo1 hlo (by omega)
    have kk := kk H locs ls hw hl
    by_cases hr : x.toInt < lo1 ∨ hi1 < x.toInt
    · have e1 := i2 (by omega)
      rw [e1] at kk
      exact lv_tableOut hx hb hd hr ha kk
    · have h1 : ¬ x.toInt < lo1 := fun z => hr (Or.inl z)
      have h2 : ¬ hi1 < x.toInt := fun z => hr (Or.inr z)
      have hix : (x.toInt - lo1).toNat < offs.toList.length := by omega
      have e1 := i1 (x.toInt - lo1).toNat hix (by omega)
      rw [e1] at kk
      have hn0 := hnn _ (List.getElem_mem hix)
      refine lv_tableIn (off := offs.toList[(x.toInt - lo1).toNat]) hx hb hd h1 h2 ?_ ?_ kk
      · rw [← Array.getElem?_toList]
        exact List.getElem?_eq_getElem hix
      · exact (Int.toNat_of_nonneg hn0).symm
  all_goals (cases hs)
set_option maxHeartbeats 2000000 in
set_option maxRecDepth 100000 in
theorem q_lookupswitch {p : Program} {l : Launch} {e : Env} {R : Room} {s : State} {m : MethodId} {args : Array Value} {below : List Frame} {meth : Method} {c : Code} {A : Nat → Prop} {H0 : Heap} {cells slots : Nat} {Qf : State → Prop} {D : va_G} {G : GA} {k : Nat} {X : SX} (C : CX k X G D p s m args c R A H0 cells slots) {pc ln op a b : Nat} {v : Value} {ts : List (Int32 × Nat)} {lo lo' : Lo} {st st' : List Value} {h h' : AH} {j : Option Nat} (hs : stp X (pc, ln, op, a, b, v, ts) lo st h = some (.inl (j, lo', st', h'))) {d : Int} {ps : Array (Int × Int)} (hd : decode (byt k) pc = .ok (.lookupswitch d ps, ln)) (hm : mOp k pc ln op a b v ts (.lookupswitch d ps) = true) (kk : KKt p l e R s m args below meth c A H0 cells slots Qf D G k h' lo' st' (nxt (pc, ln, op, a, b, v, ts) j)) : KKt p l e R s m args below meth c A H0 cells slots Qf D G k h lo st pc := by
  intro H locs ls hw hl
  obtain ⟨hx, hb, hml, hown, hts, hnw, hK, hR, hA, hX⟩ := C
  obtain ⟨hP, hD, hS, hj⟩ := id hw
  obtain ⟨rfl, ha, rfl, hsrt, hnn⟩ := of_decide_eq_true hm
  rcases st with _ | ⟨y1, st⟩
  · cases hs
  cases y1
  case int x =>
    cases (show some (Sum.inl (some (swT x a (ps.toList.map (fun q => (Int32.ofInt q.1, ((pc : Int) + q.2).toNat)))), lo, st, h)) = some (Sum.inl (j, lo', st', h')) from hs)
    exact lv_lookup hx hb hd hsrt rfl (lsw_in pc a d x ha ps.toList hnn) (kk H locs ls hw hl)
  all_goals (cases hs)

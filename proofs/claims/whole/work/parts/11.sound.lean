set_option maxHeartbeats 8000000 in
set_option maxRecDepth 100000 in
theorem stepS {p : Program} {l : Launch} {e : Env} {R : Room} {s : State} {m : MethodId} {args : Array Value} {below : List Frame} {meth : Method} {c : Code} {A : Nat → Prop} {H0 : Heap} {cells slots : Nat} {Qf : State → Prop} {D : va_G} {G : GA} {k : Nat} {X : SX} (C : CX k X G D p s m args c R A H0 cells slots) {ce : CE} {lo lo' : Lo} {st st' : List Value} {h h' : AH} {j : Option Nat} (hs : stp X ce lo st h = some (.inl (j, lo', st', h'))) (hok : okE k ce = true) {H : Heap} {locs : List Loc} {ls : Array Slot} (hw : WD D G A H0 H locs h) (hl : lv_has ls (mxL k) (prs G.1 lo))
    (kk : KKt p l e R s m args below meth c A H0 cells slots Qf D G k h' lo' st' (nxt ce j)) : W p l e R s m args below meth c H locs cells slots Qf (F0 m ce.1 ls (st.map (cv G.1))) := by
  obtain ⟨pc, ln, op, a, b, v, ts⟩ := ce
  unfold okE at hok
  dsimp only at hok
  cases hd : decode (byt k) pc with
  | error _ => rw [hd] at hok; cases hok
  | ok il =>
  obtain ⟨ins, ln'⟩ := il
  rw [hd] at hok
  dsimp only at hok
  rw [Bool.and_eq_true] at hok
  obtain ⟨hln, hm⟩ := hok
  have hln := beq_iff_eq.mp hln
  subst hln
  dsimp only
  cases ins
  case iconst n => exact q_iconst C hs hd hm kk H locs ls hw hl
  case bipush n => exact q_bipush C hs hd hm kk H locs ls hw hl
  case sipush n => exact q_sipush C hs hd hm kk H locs ls hw hl
  case lconst n => exact q_lconst C hs hd hm kk H locs ls hw hl
  case ldc2_w i => exact q_ldc2_w C hs hd hm kk H locs ls hw hl
  case ldc_w i => exact q_ldc_w C hs hd hm kk H locs ls hw hl
  case iload_n n => exact q_iload_n C hs hd hm kk H locs ls hw hl
  case iload i => exact q_iload C hs hd hm kk H locs ls hw hl
  case lload_n n => exact q_lload_n C hs hd hm kk H locs ls hw hl
  case lload i => exact q_lload C hs hd hm kk H locs ls hw hl
  case aload_n n => exact q_aload_n C hs hd hm kk H locs ls hw hl
  case aload i => exact q_aload C hs hd hm kk H locs ls hw hl
  case istore_n n => exact q_istore_n C hs hd hm kk H locs ls hw hl
  case istore i => exact q_istore C hs hd hm kk H locs ls hw hl
  case astore_n n => exact q_astore_n C hs hd hm kk H locs ls hw hl
  case astore i => exact q_astore C hs hd hm kk H locs ls hw hl
  case lstore_n n => exact q_lstore_n C hs hd hm kk H locs ls hw hl
  case lstore i => exact q_lstore C hs hd hm kk H locs ls hw hl
  case iinc i n => exact q_iinc C hs hd hm kk H locs ls hw hl
  case iadd => exact q_iadd C hs hd hm kk H locs ls hw hl
  case isub => exact q_isub C hs hd hm kk H locs ls hw hl
  case imul => exact q_imul C hs hd hm kk H locs ls hw hl
  case iand => exact q_iand C hs hd hm kk H locs ls hw hl
  case ior => exact q_ior C hs hd hm kk H locs ls hw hl
  case ixor => exact q_ixor C hs hd hm kk H locs ls hw hl
  case ishl => exact q_ishl C hs hd hm kk H locs ls hw hl
  case ishr => exact q_ishr C hs hd hm kk H locs ls hw hl
  case iushr => exact q_iushr C hs hd hm kk H locs ls hw hl
  case idiv => exact q_idiv C hs hd hm kk H locs ls hw hl
  case irem => exact q_irem C hs hd hm kk H locs ls hw hl
  case ladd => exact q_ladd C hs hd hm kk H locs ls hw hl
  case lsub => exact q_lsub C hs hd hm kk H locs ls hw hl
  case lmul => exact q_lmul C hs hd hm kk H locs ls hw hl
  case land => exact q_land C hs hd hm kk H locs ls hw hl
  case lor => exact q_lor C hs hd hm kk H locs ls hw hl
  case lxor => exact q_lxor C hs hd hm kk H locs ls hw hl
  case ldiv => exact q_ldiv C hs hd hm kk H locs ls hw hl
  case lrem => exact q_lrem C hs hd hm kk H locs ls hw hl
  case lshl => exact q_lshl C hs hd hm kk H locs ls hw hl
  case lshr => exact q_lshr C hs hd hm kk H locs ls hw hl
  case lushr => exact q_lushr C hs hd hm kk H locs ls hw hl
  case lcmp => exact q_lcmp C hs hd hm kk H locs ls hw hl
  case ineg => exact q_ineg C hs hd hm kk H locs ls hw hl
  case lneg => exact q_lneg C hs hd hm kk H locs ls hw hl
  case i2l => exact q_i2l C hs hd hm kk H locs ls hw hl
  case l2i => exact q_l2i C hs hd hm kk H locs ls hw hl
  case i2b => exact q_i2b C hs hd hm kk H locs ls hw hl
  case i2s => exact q_i2s C hs hd hm kk H locs ls hw hl
  case ifCond cond off => exact q_ifCond C hs hd hm kk H locs ls hw hl
  case if_icmp cond off => exact q_if_icmp C hs hd hm kk H locs ls hw hl
  case goto off => exact q_goto C hs hd hm kk H locs ls hw hl
  case dup => exact q_dup C hs hd hm kk H locs ls hw hl
  case pop => exact q_pop C hs hd hm kk H locs ls hw hl
  case dup2 => exact q_dup2 C hs hd hm kk H locs ls hw hl
  case getfield i => exact q_getfield C hs hd hm kk H locs ls hw hl
  case putfield i => exact q_putfield C hs hd hm kk H locs ls hw hl
  case iaload => exact q_iaload C hs hd hm kk H locs ls hw hl
  case laload => exact q_laload C hs hd hm kk H locs ls hw hl
  case baload => exact q_baload C hs hd hm kk H locs ls hw hl
  case aaload => exact q_aaload C hs hd hm kk H locs ls hw hl
  case iastore => exact q_iastore C hs hd hm kk H locs ls hw hl
  case lastore => exact q_lastore C hs hd hm kk H locs ls hw hl
  case bastore => exact q_bastore C hs hd hm kk H locs ls hw hl
  case arraylength => exact q_arraylength C hs hd hm kk H locs ls hw hl
  case invokevirtual i => exact q_invokevirtual C hs hd hm kk H locs ls hw hl
  case invokestatic i => exact q_invokestatic C hs hd hm kk H locs ls hw hl
  case ireturn => exact q_ireturn C hs hd hm kk H locs ls hw hl
  case lreturn => exact q_lreturn C hs hd hm kk H locs ls hw hl
  case return_ => exact q_return_ C hs hd hm kk H locs ls hw hl
  case tableswitch d lo1 hi1 offs => exact q_tableswitch C hs hd hm kk H locs ls hw hl
  case lookupswitch d ps => exact q_lookupswitch C hs hd hm kk H locs ls hw hl
  all_goals (exact absurd hm (fun z => Bool.noConfusion z))
/-- how a method's own return stands at its end -/
def retAt (k pc : Nat) (v : Option Value) : Prop := (∃ x, v = some (.int x) ∧ decode (byt k) pc = .ok (.ireturn, 1) ∧ (rett k = some .int ∨ (rett k = some .boolean ∧ x &&& 1 = x))) ∨ (∃ x, v = some (.long x) ∧ decode (byt k) pc = .ok (.lreturn, 1) ∧ rett k = some .long) ∨ (v = none ∧ decode (byt k) pc = .ok (.return_, 1) ∧ rett k = none)
theorem ret_inv {k : Nat} {X : SX} {ce : CE} {lo : Lo} {st : List Value} {h : AH} {v : Option Value} (hok : okE k ce = true) (hs : stp X ce lo st h = some (.inr (.inl v))) : retAt k ce.1 v ∧ st = v.toList := by
  obtain ⟨pc, ln, op, a, b, w, ts⟩ := ce
  unfold okE at hok
  dsimp only at hok
  cases hd : decode (byt k) pc with
  | error _ => rw [hd] at hok; cases hok
  | ok il =>
  obtain ⟨ins, ln'⟩ := il
  rw [hd] at hok
  dsimp only at hok
  rw [Bool.and_eq_true] at hok
  obtain ⟨hln, hm⟩ := hok
  have hln := beq_iff_eq.mp hln
  subst hln
  have h3 : op = 30 ∨ op = 31 ∨ op = 32 := by
    unfold stp at hs
    split at hs
    all_goals first | (rename_i hh; cases hh) | skip
    all_goals first | exact Or.inl rfl | exact Or.inr (Or.inl rfl) | exact Or.inr (Or.inr rfl) | skip
    all_goals exfalso
    · cases hs
    · unfold s1 at hs; split at hs <;> cases hs
    · unfold s2 at hs; split at hs <;> cases hs
    · unfold s3 at hs; split at hs <;> cases hs
    · unfold s4 at hs; split at hs <;> cases hs
    · unfold s5 at hs; split at hs <;> cases hs
    · unfold s6 at hs; split at hs <;> first | cases hs | (split at hs <;> cases hs)
    · unfold s7 at hs; split at hs <;> cases hs
    · unfold s8 at hs; split at hs <;> first | cases hs | (split at hs <;> cases hs)
    · unfold s9 at hs; split at hs <;> cases hs
    · unfold s10 at hs; split at hs <;> cases hs
    · unfold s11 at hs; split at hs <;> cases hs
    · unfold s12 br at hs; split at hs <;> cases hs
    · unfold s13 br at hs; split at hs <;> cases hs
    · cases hs
    · unfold s15 at hs; split at hs <;> cases hs
    · unfold s16 at hs; split at hs <;> cases hs
    · unfold s17 at hs; split at hs <;> cases hs
    · unfold s18 at hs; split at hs <;> first | cases hs | (split at hs <;> cases hs)
    · unfold s19 at hs; split at hs <;> first | cases hs | (split at hs <;> first | cases hs | (split at hs <;> cases hs))
    · unfold s20 at hs; split at hs <;> first | cases hs | (split at hs <;> cases hs)
    · unfold s21 at hs; split at hs <;> first | cases hs | (split at hs <;> cases hs)
    · unfold s22 at hs; split at hs <;> first | cases hs | (split at hs <;> cases hs)
    · unfold s23 at hs; split at hs <;> first | cases hs | (split at hs <;> cases hs)
    · unfold s24 at hs; split at hs <;> first | cases hs | (split at hs <;> cases hs)
    · unfold s25 at hs; split at hs <;> first | cases hs | (split at hs <;> cases hs)
    · unfold s26 at hs; split at hs <;> first | cases hs | (split at hs <;> cases hs)
    · unfold s27 at hs; split at hs <;> first | cases hs | (split at hs <;> cases hs)
    · unfold s28 at hs; split at hs <;> cases hs
    · unfold s29 at hs; split at hs <;> first | cases hs | (split at hs <;> cases hs)
    · unfold s33 at hs; split at hs <;> cases hs
    · unfold s34 at hs; split at hs <;> first | cases hs | (split at hs <;> cases hs)
    · unfold s35 at hs; split at hs <;> first | cases hs | (split at hs <;> cases hs)
    · unfold s36 at hs; split at hs <;> first | cases hs | (split at hs <;> cases hs)
    · unfold s37 at hs
      split at hs
      · split at hs
        · split at hs
          · split at hs <;> cases hs
          · cases hs
        · cases hs
      · cases hs
    · cases hs
  have hins : ins = .ireturn ∨ ins = .lreturn ∨ ins = .return_ := by
    cases ins
    case ireturn => exact Or.inl rfl
    case lreturn => exact Or.inr (Or.inl rfl)
    case return_ => exact Or.inr (Or.inr rfl)
    case ifCond cond off => cases cond <;> (have := (of_decide_eq_true hm).1; omega)
    case if_icmp cond off => cases cond <;> (have := (of_decide_eq_true hm).1; omega)
    case invokestatic i =>
      simp only [mOp, Bool.or_eq_true] at hm
      rcases hm with hm | hm | hm | hm | hm <;> (have := (of_decide_eq_true hm).1; omega)
    all_goals first | (have := (of_decide_eq_true hm).1; omega) | exact absurd hm (fun z => Bool.noConfusion z)
  rcases hins with rfl | rfl | rfl
  · obtain ⟨rfl, hb, rfl⟩ := of_decide_eq_true hm
    replace hs : s30 b st = some (.inr (.inl v)) := hs
    unfold s30 at hs
    split at hs
    · rename_i x
      split at hs
      · rename_i hc
        cases hs
        refine ⟨Or.inl ⟨x, rfl, hd, ?_⟩, rfl⟩
        rcases hb with ⟨h1, h2⟩ | ⟨h1, h2⟩
        · exact Or.inl h2
        · exact Or.inr ⟨h2, hc.resolve_left (by omega)⟩
      · cases hs
    · cases hs
  · obtain ⟨rfl, hr, rfl⟩ := of_decide_eq_true hm
    replace hs : s31 st = some (.inr (.inl v)) := hs
    unfold s31 at hs
    split at hs
    · rename_i x
      cases hs
      exact ⟨Or.inr (Or.inl ⟨x, rfl, hd, hr⟩), rfl⟩
    · cases hs
  · obtain ⟨rfl, hr, rfl⟩ := of_decide_eq_true hm
    replace hs : s32 st = some (.inr (.inl v)) := hs
    unfold s32 at hs
    split at hs
    · cases hs
      exact ⟨Or.inr (Or.inr ⟨rfl, hd, hr⟩), rfl⟩
    · cases hs
def PcA (D : va_G) (G : GA) (as : List Value) (h : AH) (sz : Nat) : Array Value → State → Prop := va_Pc (as.map (cv G.1)) (fun U => U.heap.size = sz ∧ va_P D vwCl (wsA G h) U.heap ∧ va_K D vwCl (tyA G) U ∧ va_D (fun _ => True) (wsA G h) ∧ (∀ w ∈ NW, va_Nw w U) ∧ HJ h)
def QcA (D : va_G) (G : GA) (v : Option Value) (h' : AH) (A : Nat → Prop) : Array Value → State → Outcome → State → Prop := fun _ st oc t => (oc = .returned v ∧ va_P D vwCl (wsA G h') t.heap ∧ va_D A (wsA G h') ∧ HJ h') ∧ va_F A st t
def rmA (k : Nat) : Room := { frames := frm k, cells := 0, slots := 0, locals := lco k }
def wsK (k : Nat) : List Cond := .code (nam k) (byt k) (mxL k) (rett k) :: GW
def MetA (l : Launch) (D : va_G) (G : GA) (k : Nat) (as : List Value) (h : AH) (v : Option Value) (h' : AH) : Prop := ∀ sz : Nat, Met l (nam k) (wsK k) (rmA k) (PcA D G as h sz) (QcA D G v h' (va_A (wsA G h) sz)) 0 0 (va_A (wsA G h) sz)
theorem lva_cv (ad : Nat → Nat) : ∀ (vs : List Value) (i : Nat), lv_args i (vs.map (cv ad)) = (lv_args i vs).map (fun q => (q.1, cv ad q.2)) := by
  intro vs
  induction vs with
  | nil => intro i; rfl
  | cons v vs ih =>
    intro i
    simp only [List.map_cons, lv_args, cv_cat]
    rw [ih]
theorem lgs_cv (ad : Nat → Nat) : ∀ (vs : List Value), (lg_sl (vs.map (cv ad))).length = (lg_sl vs).length := by
  intro vs
  unfold lg_sl
  induction vs with
  | nil => rfl
  | cons v vs ih =>
    simp only [List.map_cons, List.flatMap_cons, List.length_append, cv_cat, ih]
    split <;> rfl
theorem lookup_mem {l : List (Nat × Value)} {i : Nat} {v : Value} (h : l.lookup i = some v) : (i, v) ∈ l := by
  induction l with
  | nil => cases h
  | cons q l ih =>
    obtain ⟨a, w⟩ := q
    rw [List.lookup_cons] at h
    by_cases hi : i = a
    · subst hi
      simp at h
      subst h
      exact List.mem_cons_self
    · have : (i == a) = false := beq_eq_false_iff_ne.mpr hi
      rw [this] at h
      exact List.mem_cons_of_mem _ (ih h)
theorem prs_ent {ad : Nat → Nat} {k i : Nat} {as : List Value} {w : Value} (h : (i, w) ∈ prs ad (ent k as)) : (i, w) ∈ lv_args 0 (as.map (cv ad)) := by
  obtain ⟨v, hv, rfl⟩ := mem_prs.mp h
  unfold ent at hv
  rw [List.getElem?_map] at hv
  cases hr : (List.range (mxL k))[i]? with
  | none => rw [hr] at hv; cases hv
  | some j =>
    rw [hr] at hv
    have hj : j = i := by
      have h1 := List.getElem?_eq_some_iff.mp hr
      obtain ⟨h1, h2⟩ := h1
      rw [List.getElem_range] at h2
      exact h2.symm
    subst hj
    have hv2 : (lv_args 0 as).lookup j = some v := by simpa using hv
    rw [lva_cv]
    exact List.mem_map.mpr ⟨(j, v), lookup_mem hv2, rfl⟩
theorem word_gw {args : Array Value} {s : State} (hts : ∀ w ∈ GW, w.before args s = true) (k : Nat) (hk : k < 144) : GoodIn GW (wsK k) := by
  intro w hw
  rcases List.mem_cons.mp hw with rfl | hw
  · exact ⟨gw_of (codOK k hk).1 rfl, good_of_word rfl⟩
  · exact ⟨hw, good_of_word (gw_good hw)⟩
theorem nw_warm {s U : State} (hW : s.WarmedH U.vm) (h : ∀ w ∈ NW, va_Nw w s) : ∀ w ∈ NW, va_Nw w U := by
  intro w hw
  have h1 := h w hw
  simp only [NW, List.mem_cons, List.not_mem_nil, or_false] at hw
  rcases hw with rfl | rfl | rfl <;> exact va_Nw.warmM hW h1
theorem nw_calling {U : State} {g : JFrame} {mk : MethodId} {a : Array Value} (h : ∀ w ∈ NW, va_Nw w U) : ∀ w ∈ NW, va_Nw w (U.calling g mk a) := by
  intro w hw
  have h1 := h w hw
  simp only [NW, List.mem_cons, List.not_mem_nil, or_false] at hw
  rcases hw with rfl | rfl | rfl <;> exact va_Nw.same rfl (u := U) (U := U.calling g mk a) rfl h1

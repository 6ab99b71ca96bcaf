/-! a run of the own machine is a walk; a method's run is its contract -/
theorem vaD_any {G : GA} {A : Nat → Prop} {h h' : AH} (hD : va_D A (wsA G h)) : va_D A (wsA G h') := by
  have key : ∀ (k : Nat) (q : Nat × va_E), (wsA G h')[k]? = some q → ∃ q', (wsA G h)[k]? = some q' ∧ q'.1 = q.1 := by
    intro k q hq
    have hk : k < 61 := by
      have := (List.getElem?_eq_some_iff.mp hq).1
      rw [wsA_len] at this
      exact this
    rw [wsA_at hk] at hq
    cases hq
    exact ⟨_, wsA_at hk, rfl⟩
  refine ⟨fun i j p q hp hq hpq => ?_, fun k q hq => ?_⟩
  · obtain ⟨p', hp', e1⟩ := key i p hp
    obtain ⟨q', hq', e2⟩ := key j q hq
    exact hD.1 i j p' q' hp' hq' (by rw [e1, e2]; exact hpq)
  · obtain ⟨q', hq', e1⟩ := key k q hq
    rw [← e1]
    exact hD.2 k q' hq'
def RTt (p : Program) (l : Launch) (e : Env) (R : Room) (s : State) (m : MethodId) (args : Array Value) (below : List Frame) (meth : Method) (c : Code) (A : Nat → Prop) (H0 : Heap) (cells slots : Nat) (Qf : State → Prop) (D : va_G) (G : GA) (k : Nat) (v : Option Value) (h : AH) : Prop := ∀ (H : Heap) (locs : List Loc) (ls : Array Slot) (pc : Nat), WD D G A H0 H locs h → retAt k pc v → W p l e R s m args below meth c H locs cells slots Qf (F0 m pc ls v.toList)
def Snd (l : Launch) (D : va_G) (G : GA) (k : Nat) (X : SX) (pc : Nat) (lo : Lo) (st : List Value) (h : AH) (v : Option Value) (h' : AH) : Prop := ∀ {p : Program} {e : Env} {R : Room} {s : State} {m : MethodId} {args : Array Value} {below : List Frame} {meth : Method} {c : Code} {A : Nat → Prop} {H0 : Heap} {cells slots : Nat} {Qf : State → Prop}, CX k X G D p s m args c R A H0 cells slots → RTt p l e R s m args below meth c A H0 cells slots Qf D G k v h' → KKt p l e R s m args below meth c A H0 cells slots Qf D G k h lo st pc
set_option maxHeartbeats 4000000 in
set_option maxRecDepth 100000 in
theorem metOf {l : Launch} {D : va_G} {G : GA} {k : Nat} {as : List Value} {h h' : AH} {v : Option Value} (hk : k < 144) (hg : (lg_sl as).length ≤ mxL k) (hrun : Snd l D G k none 0 (ent k as) [] h v h') : MetA l D G k as h v h' := by
  intro sz
  refine Met.ofW (cc := byt k) (maxL := mxL k) (ret := rett k) (codOK k hk).2.1 rfl ?_
  intro p e s m args below meth c s₁ B hml hv
  obtain ⟨rfl, hsz, hP, hK, hD0, hN, hJ⟩ := hv
  have hx := B.exec
  have hb := B.bytes
  have hr := B.returns
  have hts := atoms_spec (ws := wsK k) B.pre
  have hown : s.vm.findClass (nam k).cls = some m.cls := findClass_of_methodNamed B.named
  have hlocks := B.notSynchronized
  subst hsz
  have hD := hD0.self (sz := s.heap.size)
  generalize hAe : va_A (wsA G h) s.heap.size = A at hD ⊢
  have hA : ∀ q : Nat, s.heap.size ≤ q → A q := fun q h => by rw [← hAe]; exact Or.inr h
  have hS : va_S A s.heap s.heap [] := va_S.rf
  have hl := lv_entry (as.map (cv G.1)) (n := mxL k) (by rw [lgs_cv]; exact hg)
  rw [lg_entry_eq]
  generalize (lg_sl (as.map (cv G.1)) ++ List.replicate (mxL k - (lg_sl (as.map (cv G.1))).length) Slot.unset).toArray = ls at hl ⊢
  have hl2 : lv_has ls (mxL k) (prs G.1 (ent k as)) := ⟨hl.1, hl.2.1, fun q hq => hl.2.2 q (prs_ent hq)⟩
  rw [(codOK k hk).2.2.2] at hown
  refine hrun (cells := 0) (slots := 0) ⟨hx, hb, hml, hown, fun w hw => hts w (List.mem_cons_of_mem _ hw), hN, hK, ⟨Nat.le_refl _, Nat.le_refl _, Nat.zero_le _, Nat.zero_le _⟩, hA, fun L xs z => by cases z⟩ ?_ s.heap [] ls ⟨hP, hD, hS, hJ⟩ hl2
  intro H locs ls2 pc hw hret
  obtain ⟨hP9, hD9, hS9, hJ9⟩ := hw
  rcases hret with ⟨x, hv, hd, hr2⟩ | ⟨x, hv, hd, hr2⟩ | ⟨hv, hd, hr2⟩
  · subst hv
    rcases hr2 with hr2 | ⟨hr2, hx1⟩
    · exact W.iret (v := x) hx hb (hr.trans hr2) (fun t ht hW => ⟨⟨rfl, by rw [ht]; exact hP9, hD9, hJ9⟩, hS9.F ht⟩) hS9.2.2 hd
    · exact W.zret (v := x) (ty := .boolean) hx hb (hr.trans hr2) (show Value.int (x &&& 1) = .int x by rw [hx1]) (fun t ht hW => ⟨⟨rfl, by rw [ht]; exact hP9, hD9, hJ9⟩, hS9.F ht⟩) hS9.2.2 hd
  · subst hv
    exact W.lret (v := x) hx hb (hr.trans hr2) (fun t ht hW => ⟨⟨rfl, by rw [ht]; exact hP9, hD9, hJ9⟩, hS9.F ht⟩) hS9.2.2 hd
  · subst hv
    exact W.vret hx hb (hr.trans hr2) (fun t ht hW => ⟨⟨rfl, by rw [ht]; exact hP9, hD9, hJ9⟩, hS9.F ht⟩) hS9.2.2 hd
theorem callA {p : Program} {l : Launch} {e : Env} {R : Room} {s : State} {m : MethodId} {args : Array Value} {below : List Frame} {meth : Method} {c : Code} {H : Heap} {locs : List Loc} {cells slots : Nat} {Q : State → Prop} {pc : Nat} {ls : Array Slot} {rest st0 : List Value} {a : Array Value} {A0 A1 : Nat → Prop} {H0 : Heap} {free : Addr → Prop} {D : va_G} {G : GA} {v : Option Value} {h' : AH}
    (hr : va_Run p l e R s m args below meth c H locs cells slots 0 0 (F0 m pc ls st0) rest (QcA D G v h' A1 a) free) (hS : va_S A0 H0 H locs) (hA : ∀ q, q < H.size → A1 q → A0 q) (hf : ∀ q, free q → A0 q)
    (kk : ∀ (H1 : Heap) (locs1 : List Loc), va_P D vwCl (wsA G h') H1 → HJ h' → va_S A0 H0 H1 locs1 → W p l e R s m args below meth c H1 locs1 cells slots Q (F0 m (pc + 3) ls (v.toList ++ rest))) : W p l e R s m args below meth c H locs cells slots Q (F0 m pc ls st0) := by
  intro T hT X
  obtain ⟨v', st₀, t, T', L, h0, X', hL, e1, e2, ⟨⟨hv, hp, hd, hj⟩, hz, hk⟩, st⟩ := hr T hT X
  cases hv
  rw [h0] at hz hk
  obtain ⟨t2, a1, b1⟩ := kk T'.heap (locs ++ L) (by rw [e1]; exact hp) hj
    ⟨Nat.le_trans hS.1 (by rw [e1]; exact hz), fun q h1 h2 => by rw [e1, hk q (Nat.lt_of_lt_of_le h1 hS.1) (fun z => h2 (hA q (Nat.lt_of_lt_of_le h1 hS.1) z))]; exact hS.2.1 q h1 h2, fun q hq => by
      rcases List.mem_append.mp hq with h | h
      · exact hS.2.2 q h
      · exact hf _ (hL q h)⟩ T' rfl X'
  exact ⟨t2, st t2 a1, b1⟩
theorem freeA {G : GA} {A : Nat → Prop} {h : AH} {H0 H : Heap} {locs : List Loc} (hD : va_D A (wsA G h)) (hS : va_S A H0 H locs) (hA : ∀ q, H0.size ≤ q → A q) : ∀ q, va_A (wsA G h) H.size q → A q := by
  intro q hq
  rcases hq with ⟨k, e, hk⟩ | hq
  · exact hD.2 k _ hk
  · exact hA q (Nat.le_trans hS.1 hq)
theorem blindA {D : va_G} {G : GA} {as : List Value} {h : AH} {sz : Nat} : FrameBlind (PcA D G as h sz) := by
  intro a U g mk q
  obtain ⟨q0, q1, qP, qK, qD, qN, qJ⟩ := q
  exact ⟨q0, q1, qP, va_K.moved (u := U) (U := U.calling g mk a) (Vm.Alike.refl U.vm) qK, qD, nw_calling qN, qJ⟩
theorem call_inv {k : Nat} {X : SX} {ce : CE} {lo : Lo} {st st' as : List Value} {h : AH} {k' : Nat} (hok : okE k ce = true) (hs : stp X ce lo st h = some (.inr (.inr (k', as, st')))) :
    ce.2.1 = 3 ∧ st = as.reverse ++ st' ∧ st'.length ≤ 4 ∧ k' < 144 ∧ ∃ i, (decode (byt k) ce.1 = .ok (.invokevirtual i, 3) ∧ (own k, i, k', 0) ∈ metT ∧ cOp k k' as.length 0 = true ∧ (∃ q as1 fs, as = .ref q :: as1 ∧ h q = aO (own k') fs ∧ ¬ own k' = 99)) ∨ (decode (byt k) ce.1 = .ok (.invokestatic i, 3) ∧ ((own k, i, k', 1) ∈ metT ∨ (own k, i, k', 2) ∈ metT) ∧ cOp k k' as.length 1 = true) := by
  obtain ⟨pc, ln, op, a, b, w, ts⟩ := ce
  unfold okE at hok
  dsimp only at hok ⊢
  cases hd : decode (byt k) pc with
  | error _ => rw [hd] at hok; cases hok
  | ok il =>
  obtain ⟨ins, ln'⟩ := il
  rw [hd] at hok
  dsimp only at hok
  rw [Bool.and_eq_true] at hok
  obtain ⟨hln, hm⟩ := hok
  have hln := beq_iff_eq.mp hln
  subst hln
  have h3 : op = 28 ∨ op = 37 := by
    unfold stp at hs
    split at hs
    all_goals first | (rename_i hh; cases hh) | skip
    all_goals first | exact Or.inl rfl | exact Or.inr rfl | skip
    all_goals exfalso
    · cases hs
    · unfold s1 at hs; split at hs <;> cases hs
    · unfold s2 at hs; split at hs <;> cases hs
    · unfold s3 at hs; split at hs <;> cases hs
    · unfold s4 at hs; split at hs <;> cases hs
    · unfold s5 at hs; split at hs <;> cases hs
    · unfold s6 at hs; split at hs <;> first | cases hs | (split at hs <;> cases hs)
    · unfold s7 at hs; split at hs <;> cases hs
    · unfold s8 at hs; split at hs <;> first | cases hs | (split at hs <;> cases hs)
    · unfold s9 at hs; split at hs <;> cases hs
    · unfold s10 at hs; split at hs <;> cases hs
    · unfold s11 at hs; split at hs <;> cases hs
    · unfold s12 br at hs; split at hs <;> cases hs
    · unfold s13 br at hs; split at hs <;> cases hs
    · cases hs
    · unfold s15 at hs; split at hs <;> cases hs
    · unfold s16 at hs; split at hs <;> cases hs
    · unfold s17 at hs; split at hs <;> cases hs
    · unfold s18 at hs; split at hs <;> first | cases hs | (split at hs <;> cases hs)
    · unfold s19 at hs; split at hs <;> first | cases hs | (split at hs <;> first | cases hs | (split at hs <;> cases hs))
    · unfold s20 at hs; split at hs <;> first | cases hs | (split at hs <;> cases hs)
    · unfold s21 at hs; split at hs <;> first | cases hs | (split at hs <;> cases hs)
    · unfold s22 at hs; split at hs <;> first | cases hs | (split at hs <;> cases hs)
    · unfold s23 at hs; split at hs <;> first | cases hs | (split at hs <;> cases hs)
    · unfold s24 at hs; split at hs <;> first | cases hs | (split at hs <;> cases hs)
    · unfold s25 at hs; split at hs <;> first | cases hs | (split at hs <;> cases hs)
    · unfold s26 at hs; split at hs <;> first | cases hs | (split at hs <;> cases hs)
    · unfold s27 at hs; split at hs <;> first | cases hs | (split at hs <;> cases hs)
    · unfold s29 at hs; split at hs <;> first | cases hs | (split at hs <;> cases hs)
    · unfold s30 at hs; split at hs <;> first | cases hs | (split at hs <;> cases hs)
    · unfold s31 at hs; split at hs <;> cases hs
    · unfold s32 at hs; split at hs <;> cases hs
    · unfold s33 at hs; split at hs <;> cases hs
    · unfold s34 at hs; split at hs <;> first | cases hs | (split at hs <;> cases hs)
    · unfold s35 at hs; split at hs <;> first | cases hs | (split at hs <;> cases hs)
    · unfold s36 at hs; split at hs <;> first | cases hs | (split at hs <;> cases hs)
    · cases hs
  have hins : (∃ i, ins = .invokevirtual i) ∨ (∃ i, ins = .invokestatic i) := by
    cases ins
    case invokevirtual i => exact Or.inl ⟨i, rfl⟩
    case invokestatic i => exact Or.inr ⟨i, rfl⟩
    case ifCond cond off => cases cond <;> (have := (of_decide_eq_true hm).1; omega)
    case if_icmp cond off => cases cond <;> (have := (of_decide_eq_true hm).1; omega)
    all_goals first | (have := (of_decide_eq_true hm).1; omega) | exact absurd hm (fun z => Bool.noConfusion z)
  rcases hins with ⟨i, rfl⟩ | ⟨i, rfl⟩
  · obtain ⟨rfl, hmt, hc, rfl, rfl⟩ := of_decide_eq_true hm
    replace hs : s37 a b (own a) st h = some (.inr (.inr (k', as, st'))) := hs
    unfold s37 at hs
    split at hs
    · rename_i hlen
      split at hs
      · rename_i q as1 heq
        split at hs
        · rename_i cc fs hq
          split at hs
          · rename_i hcc
            cases hs
            have hk := metOK _ hmt
            have h1 : st = (Value.ref q :: as1).reverse ++ st.drop b := by rw [← heq, List.reverse_reverse, List.take_append_drop]
            have h2 : (Value.ref q :: as1).length = b := by rw [← heq, List.length_reverse, List.length_take]; omega
            refine ⟨rfl, h1, by rw [List.length_drop]; omega, hk.2.2.2.2, i, Or.inl ⟨rfl, hmt, by rw [h2]; exact hc, q, as1, fs, rfl, by rw [hq, hcc.1], by rw [← hcc.1]; exact hcc.2⟩⟩
          · cases hs
        · cases hs
      · cases hs
    · cases hs
  · simp only [mOp, Bool.or_eq_true] at hm
    rcases hm with hm | hm | hm | hm | hm
    · obtain ⟨rfl, hmt, hc, rfl⟩ := of_decide_eq_true hm
      replace hs : s28 a b lo st h = some (.inr (.inr (k', as, st'))) := hs
      unfold s28 at hs
      split at hs
      · rename_i hlen
        cases hs
        have h2 : ((st.take b).reverse).length = b := by rw [List.length_reverse, List.length_take]; omega
        have hk : k' < 144 := by
          rcases hmt with hmt | hmt
          · exact (metOK _ hmt).2.2.2
          · exact (metOK _ hmt).2.2.2
        exact ⟨rfl, by rw [List.reverse_reverse, List.take_append_drop], by rw [List.length_drop]; omega, hk, i, Or.inr ⟨rfl, hmt, by rw [h2]; exact hc⟩⟩
      · cases hs
    all_goals (have := (of_decide_eq_true hm).1; omega)
theorem cOp_inv {k a b kd : Nat} (h : cOp k a b kd = true) : (∃ d, parseMethodDescriptor (nam a).desc = some d ∧ d.parameters.length + (if kd = 0 then 1 else 0) = b) ∧ frm a + 1 ≤ frm k ∧ 8 + (mxL a + 11) + lco a ≤ lco k := by
  unfold cOp at h
  rw [Bool.and_eq_true] at h
  obtain ⟨h1, h2⟩ := h
  refine ⟨?_, of_decide_eq_true h2⟩
  split at h1
  · rename_i d hd
    exact ⟨d, hd, of_decide_eq_true h1⟩
  · cases h1
theorem vw_name {o : Nat} {r : vw_C} (h : vwCl[o]? = some r) : r.1 = clN o := by
  match o, h with
  | 0, h => cases h; rfl
  | 1, h => cases h; rfl
  | 2, h => cases h; rfl
  | 3, h => cases h; rfl
  | 4, h => cases h; rfl
  | 5, h => cases h; rfl
  | n + 6, h => simp [vwCl] at h
theorem run_ret : ∀ (n k : Nat) (X : SX) (cd : List CE) (pc : Nat) (lo : Lo) (st : List Value) (h : AH) (r : Option Value × AH), run n X k cd lo st h = some r → okC k pc cd = true → ∃ pc', retAt k pc' r.1 := by
  intro n
  induction n with
  | zero => intro k X cd pc lo st h r hr; simp [run] at hr
  | succ n ih =>
    intro k X cd pc lo st h r hr hok
    cases cd with
    | nil => simp [run] at hr
    | cons ce cd =>
      rw [run] at hr
      have hok' : ((ce.1 == pc) && okE k ce && okC k (pc + ce.2.1) cd) = true := hok
      rw [Bool.and_eq_true, Bool.and_eq_true] at hok'
      obtain ⟨⟨hpc, hoe⟩, hoc⟩ := hok'
      cases hs : stp X ce lo st h with
      | none => rw [hs] at hr; cases hr
      | some o =>
        rw [hs] at hr
        rcases o with ⟨j, lo', st', h'⟩ | v | ⟨k', as, st'⟩
        · cases j with
          | none => exact ih k X cd _ lo' st' h' r hr hoc
          | some t => exact ih k X (J k t) t lo' st' h' r hr (okJ k t)
        · cases hr
          exact ⟨_, (ret_inv hoe hs).1⟩
        · dsimp only at hr
          split at hr
          · cases hr
          · exact ih k X cd _ lo _ _ r hr hoc
set_option maxHeartbeats 4000000 in
set_option maxRecDepth 100000 in
theorem sound (l : Launch) (D : va_G) (G : GA) : ∀ (n k : Nat) (X : SX) (cd : List CE) (pc : Nat) (lo : Lo) (st : List Value) (h : AH) (r : Option Value × AH), run n X k cd lo st h = some r → okC k pc cd = true → Snd l D G k X pc lo st h r.1 r.2 := by
  intro n
  induction n with
  | zero => intro k X cd pc lo st h r hr; simp [run] at hr
  | succ n ih =>
    intro k X cd pc lo st h r hr hok
    cases cd with
    | nil => simp [run] at hr
    | cons ce cd =>
      rw [run] at hr
      have hok' : ((ce.1 == pc) && okE k ce && okC k (pc + ce.2.1) cd) = true := hok
      rw [Bool.and_eq_true, Bool.and_eq_true] at hok'
      obtain ⟨⟨hpc, hoe⟩, hoc⟩ := hok'
      have hpc := beq_iff_eq.mp hpc
      subst hpc
      cases hs : stp X ce lo st h with
      | none => rw [hs] at hr; cases hr
      | some o =>
        rw [hs] at hr
        rcases o with ⟨j, lo', st', h'⟩ | v | ⟨k', as, st'⟩
        · intro p e R s m args below meth c A H0 cells slots Qf C hret H locs ls hw hl
          have hokn : okC k (nxt ce j) (jmp k j cd) = true := by
            cases j with
            | none => exact hoc
            | some t => exact okJ k t
          exact stepS C hs hoe hw hl (ih k X (jmp k j cd) (nxt ce j) lo' st' h' r hr hokn C hret)
        · intro p e R s m args below meth c A H0 cells slots Qf C hret H locs ls hw hl
          cases hr
          obtain ⟨hra, rfl⟩ := ret_inv hoe hs
          have hm : (v.toList.map (cv G.1)) = v.toList := by
            rcases hra with ⟨x, rfl, -⟩ | ⟨x, rfl, -⟩ | ⟨rfl, -⟩ <;> rfl
          rw [hm]
          exact hret H locs ls ce.1 hw hra
        · intro p e R s m args below meth c A H0 cells slots Qf C hret H locs ls hw hl
          dsimp only at hr
          by_cases hg : (lg_sl as).length ≤ mxL k'
          · rw [if_pos hg] at hr
            cases hc : run n none k' (J k' 0) (ent k' as) [] h with
            | none => rw [hc] at hr; cases hr
            | some r1 =>
              rw [hc] at hr
              dsimp only at hr
              obtain ⟨hl3, hst, h4, hk', i, hcall⟩ := call_inv hoe hs
              have hM : MetA l D G k' as h r1.1 r1.2 := metOf hk' hg (ih k' none (J k' 0) 0 (ent k' as) [] h r1 hc (okJ k' 0))
              have hM := hM H.size
              obtain ⟨hx, hb, hml, hown, hts, hnw, hK, hR, hA, hX⟩ := id C
              obtain ⟨hP, hD, hS, hj⟩ := id hw
              have hwk := word_gw hts k' hk'
              have hFc := freeA hD hS hA
              have hpre : ∀ U : State, U.heap = H → s.WarmedH U.vm → PcA D G as h H.size (as.map (cv G.1)).toArray U := fun U hU hW => ⟨rfl, by rw [hU], by rw [hU]; exact hP, va_K.moved hW.alike hK, hD.weaken (fun _ _ _ _ => trivial), nw_warm hW hnw, hj⟩
              have hrc : r1.1.toList.map (cv G.1) = r1.1.toList ∨ True := Or.inr trivial
              have hkk : ∀ (H1 : Heap) (locs1 : List Loc), va_P D vwCl (wsA G r1.2) H1 → HJ r1.2 → va_S A H0 H1 locs1 → W p l e R s m args below meth c H1 locs1 cells slots Qf (F0 m (ce.1 + 3) ls (r1.1.toList.map (cv G.1) ++ st'.map (cv G.1))) := by
                intro H1 locs1 hP1 hj1 hS1
                have hh := ih k X cd (ce.1 + ce.2.1) lo (r1.1.toList ++ st') r1.2 r hr hoc C hret H1 locs1 ls ⟨hP1, vaD_any hD, hS1, hj1⟩ hl
                rw [hl3, List.map_append] at hh
                exact hh
              have hstk : st.map (cv G.1) = (as.map (cv G.1)).reverse ++ st'.map (cv G.1) := by rw [hst, List.map_append, List.map_reverse]
              have hvr : r1.1.toList.map (cv G.1) = r1.1.toList := by
                obtain ⟨pc', hra⟩ := run_ret n k' none (J k' 0) 0 (ent k' as) [] h r1 hc (okJ k' 0)
                rcases hra with ⟨x, hx1, -⟩ | ⟨x, hx1, -⟩ | ⟨hx1, -⟩ <;> (rw [hx1]; rfl)
              rw [hvr] at hkk
              rcases hcall with ⟨hd, hmt, hco, q, as1, fs, rfl, hq, h99⟩ | ⟨hd, hmt, hco⟩
              · obtain ⟨m1, m2, m3, m4, -⟩ := metOK _ hmt
                obtain ⟨⟨d, hpd, hpl⟩, hf1, hf2⟩ := cOp_inv hco
                have hq61 : q < 61 := lt61 hj hq (fun z => h99 (congrArg Prod.fst (Sum.inr.inj (Sum.inr.inj (Sum.inr.inj (Sum.inr.inj z))))))
                have cw : CallW R s args (clN (own k)) (nam k').cls i (nam k') (byt k') (mxL k') (rett k') (wsK k') (rmA k') 0 0 as1.length :=
                  ⟨callB_of as1.length hts hwk rfl rfl rfl (hts _ (gw_of m4 rfl)) (hts _ (gw_of m1 rfl)) ⟨(codOK k' hk').2.2.1.1, (codOK k' hk').2.2.1.2, by rw [hpd]; simp at hpl ⊢; exact hpl⟩ ⟨Nat.le_trans hf1 hR.1, Nat.le_trans hf2 hR.2.1⟩, hts _ (gw_of m2 rfl), hts _ (gw_of m3 rfl)⟩
                have hrecv : ∃ cellB : Cell, H[G.1 q]? = some cellB ∧ cellB.vm.isStatics = false ∧ s.vm.findClass (nam k').cls = some cellB.cls := by
                  have he : (wsA G h)[q]? = some (G.1 q, .inr (own k', fs.map (cv G.1))) := by rw [wsA_at hq61, hq]; rfl
                  obtain ⟨rr, hrr, -⟩ := hP q _ he
                  have hrv := va_recv hK hP hrr he
                  rw [vw_name hrr] at hrv
                  rw [(codOK k' hk').2.2.2]
                  exact hrv
                rw [hstk]
                have hdd : decode (byt k) ce.1 = .ok (.invokevirtual i, 3) := hd
                exact callA (va_runV (As := as1.map (cv G.1)) (rest := st'.map (cv G.1)) (b := G.1 q) ⟨hx, hb, hml, hown, hts⟩ hM cw ⟨blindA, hrecv, hpre⟩ rfl (by rw [List.length_map]) hl.1 (by show _ = _; simp [cv]) (lv_room (cats_le G.1 st' h4)) hdd ⟨hR.2.2.1, hR.2.2.2⟩) hS (fun q _ z => hFc q z) hFc hkk
              · obtain ⟨⟨d, hpd, hpl⟩, hf1, hf2⟩ := cOp_inv hco
                have hdd : decode (byt k) ce.1 = .ok (.invokestatic i, 3) := hd
                rw [hstk]
                rcases hmt with hmt | hmt
                · obtain ⟨m1, m2, m3, -⟩ := metOK _ hmt
                  have cw : CallB R s args (clN (own k)) i (nam k') (byt k') (mxL k') (rett k') (wsK k') (rmA k') 0 0 as.length ∧ (Cond.static (nam k')).before args s = true :=
                    ⟨callB_of as.length hts hwk rfl rfl rfl (hts _ (gw_of m3 rfl)) (hts _ (gw_of m1 rfl)) ⟨(codOK k' hk').2.2.1.1, (codOK k' hk').2.2.1.2, by rw [hpd]; simp at hpl ⊢; exact hpl⟩ ⟨Nat.le_trans hf1 hR.1, Nat.le_trans hf2 hR.2.1⟩, hts _ (gw_of m2 rfl)⟩
                  exact callA (va_runS (As := as.map (cv G.1)) (rest := st'.map (cv G.1)) ⟨hx, hb, hml, hown, hts⟩ hM cw ⟨blindA, hpre⟩ rfl (by rw [List.length_map]) hl.1 rfl (lv_room (cats_le G.1 st' h4)) hdd ⟨hR.2.2.1, hR.2.2.2⟩) hS (fun q _ z => hFc q z) hFc hkk
                · obtain ⟨m1, m2, m3, -⟩ := metOK _ hmt
                  have cw : va_CN R s args (clN (own k)) i (nam k') "MeanTown" (byt k') (mxL k') (rett k') (wsK k') (rmA k') 0 0 as.length ∧ (Cond.static (nam k')).before args s = true ∧ True :=
                    ⟨va_cnB as.length hts hwk rfl rfl rfl (hnw _ m1) (hts _ (gw_of m3 rfl)) ⟨(codOK k' hk').2.2.1.1, (codOK k' hk').2.2.1.2, by rw [hpd]; simp at hpl ⊢; exact hpl⟩ ⟨Nat.le_trans hf1 hR.1, Nat.le_trans hf2 hR.2.1⟩, hts _ (gw_of m2 rfl), trivial⟩
                  exact callA (va_runSN (As := as.map (cv G.1)) (rest := st'.map (cv G.1)) ⟨hx, hb, hml, hown, hts⟩ hM cw ⟨blindA, hpre⟩ rfl (by rw [List.length_map]) hl.1 rfl (lv_room (cats_le G.1 st' h4)) hdd ⟨hR.2.2.1, hR.2.2.2⟩) hS (fun q _ z => hFc q z) hFc hkk
          · rw [if_neg hg] at hr; cases hr

/-! THE CONSTRUCTORS, walked by the kit's rows -/
abbrev C4 : Type := ClassId × ClassId × ClassId × ClassId
abbrev TY (c4 : C4) : List (ClassId × FieldType) := [(c4.1, .int), (c4.2.1, .long), (c4.2.2.1, .byte), (c4.2.2.2, .object RX1)]
theorem in_cl {a : Nat} {C : String} {T : u_T} {N : Nat} (hv : vwCl[a]? = some (C, T, N)) : ∀ w ∈ u_ws C T N, w ∈ GW := by
  intro w hw
  have h2 := List.all_eq_true.mp inAll _ (List.mem_of_getElem? hv)
  have h3 := List.all_eq_true.mp h2 w hw
  simp only [Bool.and_eq_true, decide_eq_true_eq] at h3
  exact gw_of h3.1 h3.2
theorem goodI {y : MethodName} {b : ByteArray} {n : Nat} (h : Cond.code y b n none ∈ lw_tbl) : GoodIn GW (.code y b n none :: GW) := by
  intro w hw
  rcases List.mem_cons.mp hw with rfl | hw
  · exact ⟨gw_of h rfl, good_of_word rfl⟩
  · exact ⟨hw, good_of_word (gw_good hw)⟩
def NIw : List Cond := [.methodLinkNest RX4 9 yX3_init "MeanTown", .methodLinkNest RX4 24 yX0_init "MeanTown", .methodLinkNest RX4 31 yX2_init "MeanTown", .methodLinkNest RX4 49 yX1_init "MeanTown"]
def NI (U : State) : Prop := (∀ w ∈ NIw, va_Nw w U) ∧ va_AO RX1 U
theorem ni_warm {s U : State} (hW : s.WarmedH U.vm) (h : NI s) : NI U := by
  refine ⟨fun w hw => ?_, va_AO.moved hW.alike h.2⟩
  have h1 := h.1 w hw
  simp only [NIw, List.mem_cons, List.not_mem_nil, or_false] at hw
  rcases hw with rfl | rfl | rfl | rfl <;> exact va_Nw.warmM hW h1
theorem ni_calling {U : State} {g : JFrame} {mk : MethodId} {a : Array Value} (h : NI U) : NI (U.calling g mk a) := by
  refine ⟨fun w hw => ?_, va_AO.moved (u := U) (U := U.calling g mk a) (Vm.Alike.refl U.vm) h.2⟩
  have h1 := h.1 w hw
  simp only [NIw, List.mem_cons, List.not_mem_nil, or_false] at hw
  rcases hw with rfl | rfl | rfl | rfl <;> exact va_Nw.same rfl (u := U) (U := U.calling g mk a) rfl h1
section NEWA
variable {p : Program} {l : Launch} {e : Env} {R : Room} {s : State} {m : MethodId} {args : Array Value} {below : List Frame} {meth : Method} {c : Code} {H : Heap} {locs : List Loc} {cells slots : Nat} {Q : State → Prop}
variable {cc : ByteArray} {pc : Nat} {ls : Array Slot} {rest : List Value} {D : va_G} {cl : List vw_C} {A : Nat → Prop} {tys : List (ClassId × FieldType)} {ws : va_W} {H0 : Heap}
theorem newA (hexec : p.tables.exec = Jvm.exec) (hb : c.code = cc) {atype : ArrayType} (harr : (Cond.arrayClass (newarray.typeOf atype)).before args s = true) {ty : FieldType} (hty : newarray.typeOf atype = ty) (hpr : ∀ (U : State) (cB : ClassId), va_RA U cB ty → U.vm.findClass ("[" ++ ty.toString) = some cB) (hK : va_K D cl tys s) (t0 : Nat) {cA : ClassId} (ht : tys[t0]? = some (cA, ty)) (hP : va_P D cl ws H) (hD : va_D A ws) (hS : va_S A H0 H locs) (hA : ∀ q, H0.size ≤ q → A q)
    {n : Int32} {N' : Nat} {a0 : vp_A} (ha : ∀ cA : ClassId, vp_cell cA a0 = arrV cA N' (fun _ => defaultValue ty)) (hn : ¬ n < 0) (hN : n.toNatClampNeg = N') (hbytes : N' * componentBytes ty ≤ 536870912) (hcells : cells + 1 ≤ R.cells) (hslots : slots + N' ≤ R.slots) (hdg : decode cc pc = .ok (.newarray atype, 2))
    (kk : ∀ (q : Nat) (H1 : Heap), va_P D cl (ws ++ [(q, .inl (cA, a0))]) H1 → va_D A (ws ++ [(q, .inl (cA, a0))]) → va_S A H0 H1 locs →
      W p l e R s m args below meth c H1 locs (cells + 1) (slots + N') Q (F0 m (pc + 2) ls (.ref q :: rest))) : W p l e R s m args below meth c H locs cells slots Q (F0 m pc ls (.int n :: rest)) := by
  refine va_newa hexec hb harr hty hK hP hD hS hA ha hn hN hbytes hcells hslots hdg (fun q c2 H1 hK2 hP2 hD2 hS2 => ?_)
  have e : c2 = cA := by
    have h1 := (hK2.2 tys.length (c2, ty) (by simp)).2
    have h2 := (hK.2 t0 _ ht).2
    exact Option.some.inj ((hpr _ _ h1).symm.trans (hpr _ _ h2))
  subst e
  exact kk q H1 hP2 hD2 hS2
theorem newQ (hexec : p.tables.exec = Jvm.exec) (hb : c.code = cc) {own C : String} {index : Nat} (hown : s.vm.findClass own = some m.cls) (hclink : (Cond.classLink own index C).before args s = true) (hover : va_AO C s) (hK : va_K D cl tys s) (t0 : Nat) {cA : ClassId} (ht : tys[t0]? = some (cA, .object C)) (hP : va_P D cl ws H) (hD : va_D A ws) (hS : va_S A H0 H locs) (hA : ∀ q, H0.size ≤ q → A q)
    {n : Int32} {N' : Nat} (hn : ¬ n < 0) (hN : n.toNatClampNeg = N') (hbytes : N' * 4 ≤ 536870912) (hcells : cells + 1 ≤ R.cells) (hslots : slots + N' ≤ R.slots) (hdg : decode cc pc = .ok (.anewarray index, 3))
    (kk : ∀ (q : Nat) (H1 : Heap), va_P D cl (ws ++ [(q, .inl (cA, N', .inr (.inr (.inr (.inr (fun _ => none))))))]) H1 → va_D A (ws ++ [(q, .inl (cA, N', .inr (.inr (.inr (.inr (fun _ => none))))))]) → va_S A H0 H1 locs →
      W p l e R s m args below meth c H1 locs (cells + 1) (slots + N') Q (F0 m (pc + 3) ls (.ref q :: rest))) : W p l e R s m args below meth c H locs cells slots Q (F0 m pc ls (.int n :: rest)) := by
  refine va_newq hexec hb hown hclink hover hK hP hD hS hA hn hN hbytes hcells hslots hdg (fun q c2 H1 hK2 hP2 hD2 hS2 => ?_)
  have e : c2 = cA := by
    obtain ⟨_, _, _, _, _, h1⟩ := (hK2.2 tys.length (c2, .object C) (by simp)).2
    obtain ⟨_, _, _, _, _, h2⟩ := (hK.2 t0 _ ht).2
    exact Option.some.inj (h1.symm.trans h2)
  subst e
  exact kk q H1 hP2 hD2 hS2
end NEWA

theorem df0 : ∀ j, j < 7 → defaultValue (tyX0 j) = vp_V [.null, .long 0, .int 0, .int 0, .int 0, .null, .null] j := by decide +kernel
theorem df1 : ∀ j, j < 4 → defaultValue (tyX1 j) = vp_V [.int 0, .int 0, .int 0, .null] j := by decide +kernel
theorem df2 : ∀ j, j < 3 → defaultValue (tyX2 j) = vp_V [.null, .int 0, .int 0] j := by decide +kernel
theorem df3 : ∀ j, j < 9 → defaultValue (tyX3 j) = vp_V [.int 0, .null, .null, .null, .null, .null, .int 0, .int 0, .null] j := by decide +kernel
theorem df4 : ∀ j, j < 9 → defaultValue (tyX4 j) = vp_V [.null, .null, .null, .null, .null, .null, .null, .null, .int 0] j := by decide +kernel
theorem df5 : ∀ j, j < 32 → defaultValue (tyX5 j) = vp_V [.int 0, .null, .null, .null, .null, .null, .int 0, .int 0, .int 0, .null, .int 0, .int 0, .int 0, .null, .null, .null, .null, .null, .long 0, .int 0, .int 0, .null, .null, .null, .null, .null, .null, .int 0, .null, .null, .null, .null] j := by decide +kernel
theorem di0_0 : decode cX0_init 0 = .ok (.aload_n 0, 1) := by decide +kernel
theorem di0_1 : decode cX0_init 1 = .ok (.invokespecial 3, 3) := by decide +kernel
theorem di0_4 : decode cX0_init 4 = .ok (.aload_n 0, 1) := by decide +kernel
theorem di0_5 : decode cX0_init 5 = .ok (.bipush 8, 2) := by decide +kernel
theorem di0_7 : decode cX0_init 7 = .ok (.newarray .long, 2) := by decide +kernel
theorem di0_9 : decode cX0_init 9 = .ok (.putfield 9, 3) := by decide +kernel
theorem di0_12 : decode cX0_init 12 = .ok (.aload_n 0, 1) := by decide +kernel
theorem di0_13 : decode cX0_init 13 = .ok (.lconst 1, 1) := by decide +kernel
theorem di0_14 : decode cX0_init 14 = .ok (.putfield 15, 3) := by decide +kernel
theorem di0_17 : decode cX0_init 17 = .ok (.aload_n 0, 1) := by decide +kernel
theorem di0_18 : decode cX0_init 18 = .ok (.bipush 8, 2) := by decide +kernel
theorem di0_20 : decode cX0_init 20 = .ok (.newarray .int, 2) := by decide +kernel
theorem di0_22 : decode cX0_init 22 = .ok (.putfield 19, 3) := by decide +kernel
theorem di0_25 : decode cX0_init 25 = .ok (.aload_n 0, 1) := by decide +kernel
theorem di0_26 : decode cX0_init 26 = .ok (.bipush 72, 2) := by decide +kernel
theorem di0_28 : decode cX0_init 28 = .ok (.newarray .long, 2) := by decide +kernel
theorem di0_30 : decode cX0_init 30 = .ok (.putfield 23, 3) := by decide +kernel
theorem di0_33 : decode cX0_init 33 = .ok (.return_, 1) := by decide +kernel
theorem di1_0 : decode cX1_init 0 = .ok (.aload_n 0, 1) := by decide +kernel
theorem di1_1 : decode cX1_init 1 = .ok (.invokespecial 3, 3) := by decide +kernel
theorem di1_4 : decode cX1_init 4 = .ok (.aload_n 0, 1) := by decide +kernel
theorem di1_5 : decode cX1_init 5 = .ok (.bipush 20, 2) := by decide +kernel
theorem di1_7 : decode cX1_init 7 = .ok (.newarray .long, 2) := by decide +kernel
theorem di1_9 : decode cX1_init 9 = .ok (.putfield 9, 3) := by decide +kernel
theorem di1_12 : decode cX1_init 12 = .ok (.return_, 1) := by decide +kernel
theorem di2_0 : decode cX2_init 0 = .ok (.aload_n 0, 1) := by decide +kernel
theorem di2_1 : decode cX2_init 1 = .ok (.invokespecial 3, 3) := by decide +kernel
theorem di2_4 : decode cX2_init 4 = .ok (.aload_n 0, 1) := by decide +kernel
theorem di2_5 : decode cX2_init 5 = .ok (.bipush 100, 2) := by decide +kernel
theorem di2_7 : decode cX2_init 7 = .ok (.newarray .byte, 2) := by decide +kernel
theorem di2_9 : decode cX2_init 9 = .ok (.putfield 9, 3) := by decide +kernel
theorem di2_12 : decode cX2_init 12 = .ok (.return_, 1) := by decide +kernel
theorem di3_0 : decode cX3_init 0 = .ok (.aload_n 0, 1) := by decide +kernel
theorem di3_1 : decode cX3_init 1 = .ok (.invokespecial 3, 3) := by decide +kernel
theorem di3_4 : decode cX3_init 4 = .ok (.aload_n 0, 1) := by decide +kernel
theorem di3_5 : decode cX3_init 5 = .ok (.bipush 8, 2) := by decide +kernel
theorem di3_7 : decode cX3_init 7 = .ok (.newarray .int, 2) := by decide +kernel
theorem di3_9 : decode cX3_init 9 = .ok (.putfield 9, 3) := by decide +kernel
theorem di3_12 : decode cX3_init 12 = .ok (.aload_n 0, 1) := by decide +kernel
theorem di3_13 : decode cX3_init 13 = .ok (.bipush 8, 2) := by decide +kernel
theorem di3_15 : decode cX3_init 15 = .ok (.newarray .int, 2) := by decide +kernel
theorem di3_17 : decode cX3_init 17 = .ok (.putfield 15, 3) := by decide +kernel
theorem di3_20 : decode cX3_init 20 = .ok (.aload_n 0, 1) := by decide +kernel
theorem di3_21 : decode cX3_init 21 = .ok (.bipush 8, 2) := by decide +kernel
theorem di3_23 : decode cX3_init 23 = .ok (.newarray .int, 2) := by decide +kernel
theorem di3_25 : decode cX3_init 25 = .ok (.putfield 18, 3) := by decide +kernel
theorem di3_28 : decode cX3_init 28 = .ok (.aload_n 0, 1) := by decide +kernel
theorem di3_29 : decode cX3_init 29 = .ok (.bipush 8, 2) := by decide +kernel
theorem di3_31 : decode cX3_init 31 = .ok (.newarray .int, 2) := by decide +kernel
theorem di3_33 : decode cX3_init 33 = .ok (.putfield 21, 3) := by decide +kernel
theorem di3_36 : decode cX3_init 36 = .ok (.aload_n 0, 1) := by decide +kernel
theorem di3_37 : decode cX3_init 37 = .ok (.bipush 64, 2) := by decide +kernel
theorem di3_39 : decode cX3_init 39 = .ok (.newarray .int, 2) := by decide +kernel
theorem di3_41 : decode cX3_init 41 = .ok (.putfield 24, 3) := by decide +kernel
theorem di3_44 : decode cX3_init 44 = .ok (.aload_n 0, 1) := by decide +kernel
theorem di3_45 : decode cX3_init 45 = .ok (.bipush 50, 2) := by decide +kernel
theorem di3_47 : decode cX3_init 47 = .ok (.putfield 27, 3) := by decide +kernel
theorem di3_50 : decode cX3_init 50 = .ok (.aload_n 0, 1) := by decide +kernel
theorem di3_51 : decode cX3_init 51 = .ok (.bipush 8, 2) := by decide +kernel
theorem di3_53 : decode cX3_init 53 = .ok (.newarray .int, 2) := by decide +kernel
theorem di3_55 : decode cX3_init 55 = .ok (.putfield 31, 3) := by decide +kernel
theorem di3_58 : decode cX3_init 58 = .ok (.return_, 1) := by decide +kernel
theorem di4_0 : decode cX4_init 0 = .ok (.aload_n 0, 1) := by decide +kernel
theorem di4_1 : decode cX4_init 1 = .ok (.invokespecial 1, 3) := by decide +kernel
theorem di4_4 : decode cX4_init 4 = .ok (.aload_n 0, 1) := by decide +kernel
theorem di4_5 : decode cX4_init 5 = .ok (.new 7, 3) := by decide +kernel
theorem di4_8 : decode cX4_init 8 = .ok (.dup, 1) := by decide +kernel
theorem di4_9 : decode cX4_init 9 = .ok (.invokespecial 9, 3) := by decide +kernel
theorem di4_12 : decode cX4_init 12 = .ok (.putfield 10, 3) := by decide +kernel
theorem di4_15 : decode cX4_init 15 = .ok (.aload_n 0, 1) := by decide +kernel
theorem di4_16 : decode cX4_init 16 = .ok (.new 7, 3) := by decide +kernel
theorem di4_19 : decode cX4_init 19 = .ok (.dup, 1) := by decide +kernel
theorem di4_20 : decode cX4_init 20 = .ok (.invokespecial 9, 3) := by decide +kernel
theorem di4_23 : decode cX4_init 23 = .ok (.putfield 16, 3) := by decide +kernel
theorem di4_26 : decode cX4_init 26 = .ok (.aload_n 0, 1) := by decide +kernel
theorem di4_27 : decode cX4_init 27 = .ok (.new 7, 3) := by decide +kernel
theorem di4_30 : decode cX4_init 30 = .ok (.dup, 1) := by decide +kernel
theorem di4_31 : decode cX4_init 31 = .ok (.invokespecial 9, 3) := by decide +kernel
theorem di4_34 : decode cX4_init 34 = .ok (.putfield 19, 3) := by decide +kernel
theorem di4_37 : decode cX4_init 37 = .ok (.aload_n 0, 1) := by decide +kernel
theorem di4_38 : decode cX4_init 38 = .ok (.new 22, 3) := by decide +kernel
theorem di4_41 : decode cX4_init 41 = .ok (.dup, 1) := by decide +kernel
theorem di4_42 : decode cX4_init 42 = .ok (.invokespecial 24, 3) := by decide +kernel
theorem di4_45 : decode cX4_init 45 = .ok (.putfield 25, 3) := by decide +kernel
theorem di4_48 : decode cX4_init 48 = .ok (.aload_n 0, 1) := by decide +kernel
theorem di4_49 : decode cX4_init 49 = .ok (.new 29, 3) := by decide +kernel
theorem di4_52 : decode cX4_init 52 = .ok (.dup, 1) := by decide +kernel
theorem di4_53 : decode cX4_init 53 = .ok (.invokespecial 31, 3) := by decide +kernel
theorem di4_56 : decode cX4_init 56 = .ok (.putfield 32, 3) := by decide +kernel
theorem di4_59 : decode cX4_init 59 = .ok (.aload_n 0, 1) := by decide +kernel
theorem di4_60 : decode cX4_init 60 = .ok (.iconst 4, 1) := by decide +kernel
theorem di4_61 : decode cX4_init 61 = .ok (.anewarray 36, 3) := by decide +kernel
theorem di4_64 : decode cX4_init 64 = .ok (.putfield 38, 3) := by decide +kernel
theorem di4_67 : decode cX4_init 67 = .ok (.aload_n 0, 1) := by decide +kernel
theorem di4_68 : decode cX4_init 68 = .ok (.bipush 100, 2) := by decide +kernel
theorem di4_70 : decode cX4_init 70 = .ok (.newarray .long, 2) := by decide +kernel
theorem di4_72 : decode cX4_init 72 = .ok (.putfield 42, 3) := by decide +kernel
theorem di4_75 : decode cX4_init 75 = .ok (.aload_n 0, 1) := by decide +kernel
theorem di4_76 : decode cX4_init 76 = .ok (.bipush 100, 2) := by decide +kernel
theorem di4_78 : decode cX4_init 78 = .ok (.newarray .long, 2) := by decide +kernel
theorem di4_80 : decode cX4_init 80 = .ok (.putfield 46, 3) := by decide +kernel
theorem di4_83 : decode cX4_init 83 = .ok (.iconst 0, 1) := by decide +kernel
theorem di4_84 : decode cX4_init 84 = .ok (.istore_n 1, 1) := by decide +kernel
theorem di4_85 : decode cX4_init 85 = .ok (.iload_n 1, 1) := by decide +kernel
theorem di4_86 : decode cX4_init 86 = .ok (.iconst 4, 1) := by decide +kernel
theorem di4_87 : decode cX4_init 87 = .ok (.if_icmp .ge 22, 3) := by decide +kernel
theorem di4_90 : decode cX4_init 90 = .ok (.aload_n 0, 1) := by decide +kernel
theorem di4_91 : decode cX4_init 91 = .ok (.getfield 38, 3) := by decide +kernel
theorem di4_94 : decode cX4_init 94 = .ok (.iload_n 1, 1) := by decide +kernel
theorem di4_95 : decode cX4_init 95 = .ok (.new 36, 3) := by decide +kernel
theorem di4_98 : decode cX4_init 98 = .ok (.dup, 1) := by decide +kernel
theorem di4_99 : decode cX4_init 99 = .ok (.invokespecial 49, 3) := by decide +kernel
theorem di4_102 : decode cX4_init 102 = .ok (.aastore, 1) := by decide +kernel
theorem di4_103 : decode cX4_init 103 = .ok (.iinc 1 1, 3) := by decide +kernel
theorem di4_106 : decode cX4_init 106 = .ok (.goto (-21), 3) := by decide +kernel
theorem di4_109 : decode cX4_init 109 = .ok (.return_, 1) := by decide +kernel
theorem di5_0 : decode cX5_init 0 = .ok (.aload_n 0, 1) := by decide +kernel
theorem di5_1 : decode cX5_init 1 = .ok (.invokespecial 1, 3) := by decide +kernel
theorem di5_4 : decode cX5_init 4 = .ok (.aload_n 0, 1) := by decide +kernel
theorem di5_5 : decode cX5_init 5 = .ok (.bipush 8, 2) := by decide +kernel
theorem di5_7 : decode cX5_init 7 = .ok (.newarray .int, 2) := by decide +kernel
theorem di5_9 : decode cX5_init 9 = .ok (.putfield 7, 3) := by decide +kernel
theorem di5_12 : decode cX5_init 12 = .ok (.aload_n 0, 1) := by decide +kernel
theorem di5_13 : decode cX5_init 13 = .ok (.bipush 8, 2) := by decide +kernel
theorem di5_15 : decode cX5_init 15 = .ok (.newarray .int, 2) := by decide +kernel
theorem di5_17 : decode cX5_init 17 = .ok (.putfield 13, 3) := by decide +kernel
theorem di5_20 : decode cX5_init 20 = .ok (.aload_n 0, 1) := by decide +kernel
theorem di5_21 : decode cX5_init 21 = .ok (.bipush 8, 2) := by decide +kernel
theorem di5_23 : decode cX5_init 23 = .ok (.newarray .int, 2) := by decide +kernel
theorem di5_25 : decode cX5_init 25 = .ok (.putfield 16, 3) := by decide +kernel
theorem di5_28 : decode cX5_init 28 = .ok (.aload_n 0, 1) := by decide +kernel
theorem di5_29 : decode cX5_init 29 = .ok (.bipush 8, 2) := by decide +kernel
theorem di5_31 : decode cX5_init 31 = .ok (.newarray .int, 2) := by decide +kernel
theorem di5_33 : decode cX5_init 33 = .ok (.putfield 19, 3) := by decide +kernel
theorem di5_36 : decode cX5_init 36 = .ok (.aload_n 0, 1) := by decide +kernel
theorem di5_37 : decode cX5_init 37 = .ok (.bipush 64, 2) := by decide +kernel
theorem di5_39 : decode cX5_init 39 = .ok (.newarray .int, 2) := by decide +kernel
theorem di5_41 : decode cX5_init 41 = .ok (.putfield 22, 3) := by decide +kernel
theorem di5_44 : decode cX5_init 44 = .ok (.aload_n 0, 1) := by decide +kernel
theorem di5_45 : decode cX5_init 45 = .ok (.bipush 100, 2) := by decide +kernel
theorem di5_47 : decode cX5_init 47 = .ok (.newarray .int, 2) := by decide +kernel
theorem di5_49 : decode cX5_init 49 = .ok (.putfield 25, 3) := by decide +kernel
theorem di5_52 : decode cX5_init 52 = .ok (.aload_n 0, 1) := by decide +kernel
theorem di5_53 : decode cX5_init 53 = .ok (.bipush 16, 2) := by decide +kernel
theorem di5_55 : decode cX5_init 55 = .ok (.newarray .int, 2) := by decide +kernel
theorem di5_57 : decode cX5_init 57 = .ok (.putfield 28, 3) := by decide +kernel
theorem di5_60 : decode cX5_init 60 = .ok (.aload_n 0, 1) := by decide +kernel
theorem di5_61 : decode cX5_init 61 = .ok (.bipush 64, 2) := by decide +kernel
theorem di5_63 : decode cX5_init 63 = .ok (.newarray .int, 2) := by decide +kernel
theorem di5_65 : decode cX5_init 65 = .ok (.putfield 31, 3) := by decide +kernel
theorem di5_68 : decode cX5_init 68 = .ok (.aload_n 0, 1) := by decide +kernel
theorem di5_69 : decode cX5_init 69 = .ok (.bipush 64, 2) := by decide +kernel
theorem di5_71 : decode cX5_init 71 = .ok (.newarray .long, 2) := by decide +kernel
theorem di5_73 : decode cX5_init 73 = .ok (.putfield 34, 3) := by decide +kernel
theorem di5_76 : decode cX5_init 76 = .ok (.aload_n 0, 1) := by decide +kernel
theorem di5_77 : decode cX5_init 77 = .ok (.bipush 8, 2) := by decide +kernel
theorem di5_79 : decode cX5_init 79 = .ok (.newarray .long, 2) := by decide +kernel
theorem di5_81 : decode cX5_init 81 = .ok (.putfield 38, 3) := by decide +kernel
theorem di5_84 : decode cX5_init 84 = .ok (.aload_n 0, 1) := by decide +kernel
theorem di5_85 : decode cX5_init 85 = .ok (.bipush 8, 2) := by decide +kernel
theorem di5_87 : decode cX5_init 87 = .ok (.newarray .long, 2) := by decide +kernel
theorem di5_89 : decode cX5_init 89 = .ok (.putfield 41, 3) := by decide +kernel
theorem di5_92 : decode cX5_init 92 = .ok (.aload_n 0, 1) := by decide +kernel
theorem di5_93 : decode cX5_init 93 = .ok (.bipush 64, 2) := by decide +kernel
theorem di5_95 : decode cX5_init 95 = .ok (.newarray .int, 2) := by decide +kernel
theorem di5_97 : decode cX5_init 97 = .ok (.putfield 44, 3) := by decide +kernel
theorem di5_100 : decode cX5_init 100 = .ok (.aload_n 0, 1) := by decide +kernel
theorem di5_101 : decode cX5_init 101 = .ok (.bipush 8, 2) := by decide +kernel
theorem di5_103 : decode cX5_init 103 = .ok (.newarray .int, 2) := by decide +kernel
theorem di5_105 : decode cX5_init 105 = .ok (.putfield 47, 3) := by decide +kernel
theorem di5_108 : decode cX5_init 108 = .ok (.aload_n 0, 1) := by decide +kernel
theorem di5_109 : decode cX5_init 109 = .ok (.bipush 8, 2) := by decide +kernel
theorem di5_111 : decode cX5_init 111 = .ok (.newarray .int, 2) := by decide +kernel
theorem di5_113 : decode cX5_init 113 = .ok (.putfield 50, 3) := by decide +kernel
theorem di5_116 : decode cX5_init 116 = .ok (.aload_n 0, 1) := by decide +kernel
theorem di5_117 : decode cX5_init 117 = .ok (.bipush 100, 2) := by decide +kernel
theorem di5_119 : decode cX5_init 119 = .ok (.newarray .long, 2) := by decide +kernel
theorem di5_121 : decode cX5_init 121 = .ok (.putfield 53, 3) := by decide +kernel
theorem di5_124 : decode cX5_init 124 = .ok (.aload_n 0, 1) := by decide +kernel
theorem di5_125 : decode cX5_init 125 = .ok (.bipush 100, 2) := by decide +kernel
theorem di5_127 : decode cX5_init 127 = .ok (.newarray .long, 2) := by decide +kernel
theorem di5_129 : decode cX5_init 129 = .ok (.putfield 56, 3) := by decide +kernel
theorem di5_132 : decode cX5_init 132 = .ok (.aload_n 0, 1) := by decide +kernel
theorem di5_133 : decode cX5_init 133 = .ok (.bipush 99, 2) := by decide +kernel
theorem di5_135 : decode cX5_init 135 = .ok (.newarray .int, 2) := by decide +kernel
theorem di5_137 : decode cX5_init 137 = .ok (.putfield 59, 3) := by decide +kernel
theorem di5_140 : decode cX5_init 140 = .ok (.aload_n 0, 1) := by decide +kernel
theorem di5_141 : decode cX5_init 141 = .ok (.iconst 4, 1) := by decide +kernel
theorem di5_142 : decode cX5_init 142 = .ok (.newarray .int, 2) := by decide +kernel
theorem di5_144 : decode cX5_init 144 = .ok (.putfield 62, 3) := by decide +kernel
theorem di5_147 : decode cX5_init 147 = .ok (.aload_n 0, 1) := by decide +kernel
theorem di5_148 : decode cX5_init 148 = .ok (.iconst 4, 1) := by decide +kernel
theorem di5_149 : decode cX5_init 149 = .ok (.newarray .int, 2) := by decide +kernel
theorem di5_151 : decode cX5_init 151 = .ok (.putfield 65, 3) := by decide +kernel
theorem di5_154 : decode cX5_init 154 = .ok (.aload_n 0, 1) := by decide +kernel
theorem di5_155 : decode cX5_init 155 = .ok (.bipush 80, 2) := by decide +kernel
theorem di5_157 : decode cX5_init 157 = .ok (.newarray .long, 2) := by decide +kernel
theorem di5_159 : decode cX5_init 159 = .ok (.putfield 68, 3) := by decide +kernel
theorem di5_162 : decode cX5_init 162 = .ok (.aload_n 0, 1) := by decide +kernel
theorem di5_163 : decode cX5_init 163 = .ok (.bipush 20, 2) := by decide +kernel
theorem di5_165 : decode cX5_init 165 = .ok (.newarray .long, 2) := by decide +kernel
theorem di5_167 : decode cX5_init 167 = .ok (.putfield 71, 3) := by decide +kernel
theorem di5_170 : decode cX5_init 170 = .ok (.iconst 0, 1) := by decide +kernel
theorem di5_171 : decode cX5_init 171 = .ok (.istore_n 1, 1) := by decide +kernel
theorem di5_172 : decode cX5_init 172 = .ok (.iload_n 1, 1) := by decide +kernel
theorem di5_173 : decode cX5_init 173 = .ok (.iconst 4, 1) := by decide +kernel
theorem di5_174 : decode cX5_init 174 = .ok (.if_icmp .ge 16, 3) := by decide +kernel
theorem di5_177 : decode cX5_init 177 = .ok (.aload_n 0, 1) := by decide +kernel
theorem di5_178 : decode cX5_init 178 = .ok (.getfield 62, 3) := by decide +kernel
theorem di5_181 : decode cX5_init 181 = .ok (.iload_n 1, 1) := by decide +kernel
theorem di5_182 : decode cX5_init 182 = .ok (.iconst (-1), 1) := by decide +kernel
theorem di5_183 : decode cX5_init 183 = .ok (.iastore, 1) := by decide +kernel
theorem di5_184 : decode cX5_init 184 = .ok (.iinc 1 1, 3) := by decide +kernel
theorem di5_187 : decode cX5_init 187 = .ok (.goto (-15), 3) := by decide +kernel
theorem di5_190 : decode cX5_init 190 = .ok (.aload_n 0, 1) := by decide +kernel
theorem di5_191 : decode cX5_init 191 = .ok (.bipush 50, 2) := by decide +kernel
theorem di5_193 : decode cX5_init 193 = .ok (.putfield 74, 3) := by decide +kernel
theorem di5_196 : decode cX5_init 196 = .ok (.return_, 1) := by decide +kernel
theorem g_Rents : GoodIn GW (.code yX0_init cX0_init 1 none :: GW) := goodI (List.mem_of_getElem? (i := 110) (by decide +kernel))
theorem g_Sheet : GoodIn GW (.code yX1_init cX1_init 1 none :: GW) := goodI (List.mem_of_getElem? (i := 160) (by decide +kernel))
theorem g_Tape : GoodIn GW (.code yX2_init cX2_init 1 none :: GW) := goodI (List.mem_of_getElem? (i := 141) (by decide +kernel))
theorem g_Town : GoodIn GW (.code yX3_init cX3_init 1 none :: GW) := goodI (List.mem_of_getElem? (i := 63) (by decide +kernel))
theorem g_Main : GoodIn GW (.code yX4_init cX4_init 2 none :: GW) := goodI (List.mem_of_getElem? (i := 55) (by decide +kernel))
theorem g_Model : GoodIn GW (.code yX5_init cX5_init 2 none :: GW) := goodI (List.mem_of_getElem? (i := 582) (by decide +kernel))
set_option maxHeartbeats 8000000 in
set_option maxRecDepth 100000 in
theorem k_Sheet (l : Launch) (D : va_G) (c4 : C4) (h0 sz : Nat) : Met l yX1_init (.code yX1_init cX1_init 1 none :: GW) ({ frames := 1, cells := 1, slots := 20, locals := 12 }) (va_Pc [.ref h0] (fun U => U.heap.size = sz ∧ va_P D vwCl [(h0, .inr (1, [.int 0, .int 0, .int 0, .null]))] U.heap ∧ va_K D vwCl (TY c4) U ∧ va_D (fun _ => True) [(h0, .inr (1, [.int 0, .int 0, .int 0, .null]))])) (va_Qv (fun _ : Unit => True) (fun _ t => ∃ (q1 : Nat), va_P D vwCl [(h0, .inr (1, [.int 0, .int 0, .int 0, .ref q1])), (q1, .inl (c4.2.1, 20, .inr (.inl (fun _ => 0))))] t.heap ∧ va_D (va_A [(h0, .inr (1, [.int 0, .int 0, .int 0, .null]))] sz) [(h0, .inr (1, [.int 0, .int 0, .int 0, .ref q1])), (q1, .inl (c4.2.1, 20, .inr (.inl (fun _ => 0))))]) (va_A [(h0, .inr (1, [.int 0, .int 0, .int 0, .null]))] sz)) 1 20 (va_A [(h0, .inr (1, [.int 0, .int 0, .int 0, .null]))] sz) := by
  refine Met.ofW (cc := cX1_init) (maxL := 1) (ret := none) (by decide) rfl ?_
  intro p e s m args below meth c s₁ B hml hv
  obtain ⟨rfl, hsz, hP, hK, hD0⟩ := hv
  have hx := B.exec
  have hb := B.bytes
  have hr := B.returns
  have hts0 := atoms_spec (ws := .code yX1_init cX1_init 1 none :: GW) B.pre
  have hts : ∀ w ∈ GW, w.before _ s = true := fun w hw => hts0 w (List.mem_cons_of_mem _ hw)
  have hown : s.vm.findClass RX1 = some m.cls := findClass_of_methodNamed B.named
  have hlocks := B.notSynchronized
  have hin : meth.name = "<init>" := (name_of_methodNamed B.named B.method).1
  subst hsz
  have hD := hD0.self (sz := s.heap.size)
  generalize hAe : va_A [(h0, .inr (1, [.int 0, .int 0, .int 0, .null]))] s.heap.size = A at hD ⊢
  have hA : ∀ q : Nat, s.heap.size ≤ q → A q := fun q h => by rw [← hAe]; exact Or.inr h
  clear hD0 hAe
  have hS : va_S A s.heap s.heap [] := va_S.rf
  have hl := lv_entry ([.ref h0]) (n := 1) (Nat.le_of_ble_eq_true rfl)
  rw [lg_entry_eq]
  generalize (lg_sl ([.ref h0]) ++ List.replicate (1 - (lg_sl ([.ref h0])).length) Slot.unset).toArray = ls at hl ⊢
  have hl : lv_has ls 1 [(0, .ref h0)] := hl
  refine lv_aload_n hx hb di1_0 rfl (lv_at hl 0 rfl) ?_
  refine W.objInit hx hb hown (hts (.methodLink RX1 3 objectInit) (gw_of (List.mem_of_getElem? (i := 161) (by decide +kernel)) rfl)) (hts (.instanceMethod objectInit) (gw_of (List.mem_of_getElem? (i := 57) (by decide +kernel)) rfl)) (hts (.code objectInit ⟨#[0xb1]⟩ 1 none) (gw_of (List.mem_of_getElem? (i := 58) rfl) rfl)) rfl (by rw [hml]; exact hl.1) rfl di1_1 (Nat.le_of_ble_eq_true rfl) (Nat.le_of_ble_eq_true rfl) ?_
  refine W.eq (g2 := F0 m 4 ls []) rfl ?_
  refine lv_aload_n hx hb di1_4 rfl (lv_at hl 0 rfl) ?_
  refine lv_bipush (v := 20) hx hb di1_5 (by decide) ?_
  refine newA (a0 := (20, .inr (.inl (fun _ => 0)))) (N' := 20) hx hb (atype := .long) (hts (.arrayClass .long) (gw_of (List.mem_of_getElem? (i := 136) (by decide +kernel)) rfl)) (ty := .long) rfl (fun _ _ z => z) hK 1 rfl hP hD hS hA (fun _ => rfl) (by decide) (by decide) (by decide) (Nat.le_of_ble_eq_true rfl) (Nat.le_of_ble_eq_true rfl) di1_7 (fun q1 H hP hD hS => ?_)
  have hP : va_P D vwCl [(h0, .inr (1, [.int 0, .int 0, .int 0, .null])), (q1, .inl (c4.2.1, 20, .inr (.inl (fun _ => 0))))] H := hP
  have hD : va_D A [(h0, .inr (1, [.int 0, .int 0, .int 0, .null])), (q1, .inl (c4.2.1, 20, .inr (.inl (fun _ => 0))))] := hD
  refine W.widen (k := 1) (n := 20) (by omega) (by omega) ?_
  refine va_putF (D := D) (ci := 1) (v := .ref q1) (ty := .array .long) (C := RX1) (T := TX1) (N := 4) hx hb hts (in_cl (a := 1) rfl) tyX1 tyX1_ok nmX1 hown hK hP hD hS 0 rfl rfl 3 (by decide) (hts (.fieldLink RX1 9 RX1 "items" "[J") (gw_of (List.mem_of_getElem? (i := 168) (by decide +kernel)) rfl)) (fun _ h9 => h9) rfl hin rfl (by decide +kernel) rfl rfl (Nat.le_of_ble_eq_true rfl) di1_9 (fun H locs hP hD hS => ?_)
  have hP : va_P D vwCl [(h0, .inr (1, [.int 0, .int 0, .int 0, .ref q1])), (q1, .inl (c4.2.1, 20, .inr (.inl (fun _ => 0))))] H := hP
  have hD : va_D A [(h0, .inr (1, [.int 0, .int 0, .int 0, .ref q1])), (q1, .inl (c4.2.1, 20, .inr (.inl (fun _ => 0))))] := hD
  exact W.vret hx hb hr (fun t ht hW => ⟨⟨(), rfl, trivial, q1, by rw [ht]; exact hP, hD⟩, hS.F ht⟩) hS.2.2 di1_12
set_option maxHeartbeats 8000000 in
set_option maxRecDepth 100000 in
theorem k_Tape (l : Launch) (D : va_G) (c4 : C4) (h0 sz : Nat) : Met l yX2_init (.code yX2_init cX2_init 1 none :: GW) ({ frames := 1, cells := 1, slots := 100, locals := 12 }) (va_Pc [.ref h0] (fun U => U.heap.size = sz ∧ va_P D vwCl [(h0, .inr (2, [.null, .int 0, .int 0]))] U.heap ∧ va_K D vwCl (TY c4) U ∧ va_D (fun _ => True) [(h0, .inr (2, [.null, .int 0, .int 0]))])) (va_Qv (fun _ : Unit => True) (fun _ t => ∃ (q1 : Nat), va_P D vwCl [(h0, .inr (2, [.ref q1, .int 0, .int 0])), (q1, .inl (c4.2.2.1, 100, .inl (fun _ => 0)))] t.heap ∧ va_D (va_A [(h0, .inr (2, [.null, .int 0, .int 0]))] sz) [(h0, .inr (2, [.ref q1, .int 0, .int 0])), (q1, .inl (c4.2.2.1, 100, .inl (fun _ => 0)))]) (va_A [(h0, .inr (2, [.null, .int 0, .int 0]))] sz)) 1 100 (va_A [(h0, .inr (2, [.null, .int 0, .int 0]))] sz) := by
  refine Met.ofW (cc := cX2_init) (maxL := 1) (ret := none) (by decide) rfl ?_
  intro p e s m args below meth c s₁ B hml hv
  obtain ⟨rfl, hsz, hP, hK, hD0⟩ := hv
  have hx := B.exec
  have hb := B.bytes
  have hr := B.returns
  have hts0 := atoms_spec (ws := .code yX2_init cX2_init 1 none :: GW) B.pre
  have hts : ∀ w ∈ GW, w.before _ s = true := fun w hw => hts0 w (List.mem_cons_of_mem _ hw)
  have hown : s.vm.findClass RX2 = some m.cls := findClass_of_methodNamed B.named
  have hlocks := B.notSynchronized
  have hin : meth.name = "<init>" := (name_of_methodNamed B.named B.method).1
  subst hsz
  have hD := hD0.self (sz := s.heap.size)
  generalize hAe : va_A [(h0, .inr (2, [.null, .int 0, .int 0]))] s.heap.size = A at hD ⊢
  have hA : ∀ q : Nat, s.heap.size ≤ q → A q := fun q h => by rw [← hAe]; exact Or.inr h
  clear hD0 hAe
  have hS : va_S A s.heap s.heap [] := va_S.rf
  have hl := lv_entry ([.ref h0]) (n := 1) (Nat.le_of_ble_eq_true rfl)
  rw [lg_entry_eq]
  generalize (lg_sl ([.ref h0]) ++ List.replicate (1 - (lg_sl ([.ref h0])).length) Slot.unset).toArray = ls at hl ⊢
  have hl : lv_has ls 1 [(0, .ref h0)] := hl
  refine lv_aload_n hx hb di2_0 rfl (lv_at hl 0 rfl) ?_
  refine W.objInit hx hb hown (hts (.methodLink RX2 3 objectInit) (gw_of (List.mem_of_getElem? (i := 142) (by decide +kernel)) rfl)) (hts (.instanceMethod objectInit) (gw_of (List.mem_of_getElem? (i := 57) (by decide +kernel)) rfl)) (hts (.code objectInit ⟨#[0xb1]⟩ 1 none) (gw_of (List.mem_of_getElem? (i := 58) rfl) rfl)) rfl (by rw [hml]; exact hl.1) rfl di2_1 (Nat.le_of_ble_eq_true rfl) (Nat.le_of_ble_eq_true rfl) ?_
  refine W.eq (g2 := F0 m 4 ls []) rfl ?_
  refine lv_aload_n hx hb di2_4 rfl (lv_at hl 0 rfl) ?_
  refine lv_bipush (v := 100) hx hb di2_5 (by decide) ?_
  refine newA (a0 := (100, .inl (fun _ => 0))) (N' := 100) hx hb (atype := .byte) (hts (.arrayClass .byte) (gw_of (List.mem_of_getElem? (i := 154) (by decide +kernel)) rfl)) (ty := .byte) rfl (fun _ _ z => z) hK 2 rfl hP hD hS hA (fun _ => rfl) (by decide) (by decide) (by decide) (Nat.le_of_ble_eq_true rfl) (Nat.le_of_ble_eq_true rfl) di2_7 (fun q1 H hP hD hS => ?_)
  have hP : va_P D vwCl [(h0, .inr (2, [.null, .int 0, .int 0])), (q1, .inl (c4.2.2.1, 100, .inl (fun _ => 0)))] H := hP
  have hD : va_D A [(h0, .inr (2, [.null, .int 0, .int 0])), (q1, .inl (c4.2.2.1, 100, .inl (fun _ => 0)))] := hD
  refine W.widen (k := 1) (n := 100) (by omega) (by omega) ?_
  refine va_putF (D := D) (ci := 2) (v := .ref q1) (ty := .array .byte) (C := RX2) (T := TX2) (N := 3) hx hb hts (in_cl (a := 2) rfl) tyX2 tyX2_ok nmX2 hown hK hP hD hS 0 rfl rfl 0 (by decide) (hts (.fieldLink RX2 9 RX2 "bytes" "[B") (gw_of (List.mem_of_getElem? (i := 143) (by decide +kernel)) rfl)) (fun _ h9 => h9) rfl hin rfl (by decide +kernel) rfl rfl (Nat.le_of_ble_eq_true rfl) di2_9 (fun H locs hP hD hS => ?_)
  have hP : va_P D vwCl [(h0, .inr (2, [.ref q1, .int 0, .int 0])), (q1, .inl (c4.2.2.1, 100, .inl (fun _ => 0)))] H := hP
  have hD : va_D A [(h0, .inr (2, [.ref q1, .int 0, .int 0])), (q1, .inl (c4.2.2.1, 100, .inl (fun _ => 0)))] := hD
  exact W.vret hx hb hr (fun t ht hW => ⟨⟨(), rfl, trivial, q1, by rw [ht]; exact hP, hD⟩, hS.F ht⟩) hS.2.2 di2_12
set_option maxHeartbeats 8000000 in
set_option maxRecDepth 100000 in
theorem k_Rents (l : Launch) (D : va_G) (c4 : C4) (h0 sz : Nat) : Met l yX0_init (.code yX0_init cX0_init 1 none :: GW) ({ frames := 1, cells := 3, slots := 88, locals := 12 }) (va_Pc [.ref h0] (fun U => U.heap.size = sz ∧ va_P D vwCl [(h0, .inr (0, [.null, .long 0, .int 0, .int 0, .int 0, .null, .null]))] U.heap ∧ va_K D vwCl (TY c4) U ∧ va_D (fun _ => True) [(h0, .inr (0, [.null, .long 0, .int 0, .int 0, .int 0, .null, .null]))])) (va_Qv (fun _ : Unit => True) (fun _ t => ∃ (q1 q2 q3 : Nat), va_P D vwCl [(h0, .inr (0, [.ref q1, .long 1, .int 0, .int 0, .int 0, .ref q2, .ref q3])), (q1, .inl (c4.2.1, 8, .inr (.inl (fun _ => 0)))), (q2, .inl (c4.1, 8, .inl (fun _ => 0))), (q3, .inl (c4.2.1, 72, .inr (.inl (fun _ => 0))))] t.heap ∧ va_D (va_A [(h0, .inr (0, [.null, .long 0, .int 0, .int 0, .int 0, .null, .null]))] sz) [(h0, .inr (0, [.ref q1, .long 1, .int 0, .int 0, .int 0, .ref q2, .ref q3])), (q1, .inl (c4.2.1, 8, .inr (.inl (fun _ => 0)))), (q2, .inl (c4.1, 8, .inl (fun _ => 0))), (q3, .inl (c4.2.1, 72, .inr (.inl (fun _ => 0))))]) (va_A [(h0, .inr (0, [.null, .long 0, .int 0, .int 0, .int 0, .null, .null]))] sz)) 3 88 (va_A [(h0, .inr (0, [.null, .long 0, .int 0, .int 0, .int 0, .null, .null]))] sz) := by
  refine Met.ofW (cc := cX0_init) (maxL := 1) (ret := none) (by decide) rfl ?_
  intro p e s m args below meth c s₁ B hml hv
  obtain ⟨rfl, hsz, hP, hK, hD0⟩ := hv
  have hx := B.exec
  have hb := B.bytes
  have hr := B.returns
  have hts0 := atoms_spec (ws := .code yX0_init cX0_init 1 none :: GW) B.pre
  have hts : ∀ w ∈ GW, w.before _ s = true := fun w hw => hts0 w (List.mem_cons_of_mem _ hw)
  have hown : s.vm.findClass RX0 = some m.cls := findClass_of_methodNamed B.named
  have hlocks := B.notSynchronized
  have hin : meth.name = "<init>" := (name_of_methodNamed B.named B.method).1
  subst hsz
  have hD := hD0.self (sz := s.heap.size)
  generalize hAe : va_A [(h0, .inr (0, [.null, .long 0, .int 0, .int 0, .int 0, .null, .null]))] s.heap.size = A at hD ⊢
  have hA : ∀ q : Nat, s.heap.size ≤ q → A q := fun q h => by rw [← hAe]; exact Or.inr h
  clear hD0 hAe
  have hS : va_S A s.heap s.heap [] := va_S.rf
  have hl := lv_entry ([.ref h0]) (n := 1) (Nat.le_of_ble_eq_true rfl)
  rw [lg_entry_eq]
  generalize (lg_sl ([.ref h0]) ++ List.replicate (1 - (lg_sl ([.ref h0])).length) Slot.unset).toArray = ls at hl ⊢
  have hl : lv_has ls 1 [(0, .ref h0)] := hl
  refine lv_aload_n hx hb di0_0 rfl (lv_at hl 0 rfl) ?_
  refine W.objInit hx hb hown (hts (.methodLink RX0 3 objectInit) (gw_of (List.mem_of_getElem? (i := 111) (by decide +kernel)) rfl)) (hts (.instanceMethod objectInit) (gw_of (List.mem_of_getElem? (i := 57) (by decide +kernel)) rfl)) (hts (.code objectInit ⟨#[0xb1]⟩ 1 none) (gw_of (List.mem_of_getElem? (i := 58) rfl) rfl)) rfl (by rw [hml]; exact hl.1) rfl di0_1 (Nat.le_of_ble_eq_true rfl) (Nat.le_of_ble_eq_true rfl) ?_
  refine W.eq (g2 := F0 m 4 ls []) rfl ?_
  refine lv_aload_n hx hb di0_4 rfl (lv_at hl 0 rfl) ?_
  refine lv_bipush (v := 8) hx hb di0_5 (by decide) ?_
  refine newA (a0 := (8, .inr (.inl (fun _ => 0)))) (N' := 8) hx hb (atype := .long) (hts (.arrayClass .long) (gw_of (List.mem_of_getElem? (i := 136) (by decide +kernel)) rfl)) (ty := .long) rfl (fun _ _ z => z) hK 1 rfl hP hD hS hA (fun _ => rfl) (by decide) (by decide) (by decide) (Nat.le_of_ble_eq_true rfl) (Nat.le_of_ble_eq_true rfl) di0_7 (fun q1 H hP hD hS => ?_)
  have hP : va_P D vwCl [(h0, .inr (0, [.null, .long 0, .int 0, .int 0, .int 0, .null, .null])), (q1, .inl (c4.2.1, 8, .inr (.inl (fun _ => 0))))] H := hP
  have hD : va_D A [(h0, .inr (0, [.null, .long 0, .int 0, .int 0, .int 0, .null, .null])), (q1, .inl (c4.2.1, 8, .inr (.inl (fun _ => 0))))] := hD
  refine W.widen (k := 1) (n := 8) (by omega) (by omega) ?_
  refine va_putF (D := D) (ci := 0) (v := .ref q1) (ty := .array .long) (C := RX0) (T := TX0) (N := 7) hx hb hts (in_cl (a := 0) rfl) tyX0 tyX0_ok nmX0 hown hK hP hD hS 0 rfl rfl 0 (by decide) (hts (.fieldLink RX0 9 RX0 "above" "[J") (gw_of (List.mem_of_getElem? (i := 112) (by decide +kernel)) rfl)) (fun _ h9 => h9) rfl hin rfl (by decide +kernel) rfl rfl (Nat.le_of_ble_eq_true rfl) di0_9 (fun H locs hP hD hS => ?_)
  have hP : va_P D vwCl [(h0, .inr (0, [.ref q1, .long 0, .int 0, .int 0, .int 0, .null, .null])), (q1, .inl (c4.2.1, 8, .inr (.inl (fun _ => 0))))] H := hP
  have hD : va_D A [(h0, .inr (0, [.ref q1, .long 0, .int 0, .int 0, .int 0, .null, .null])), (q1, .inl (c4.2.1, 8, .inr (.inl (fun _ => 0))))] := hD
  refine lv_aload_n hx hb di0_12 rfl (lv_at hl 0 rfl) ?_
  refine lv_lconst (v := 1) hx hb di0_13 (by decide) ?_
  refine va_put (D := D) (ci := 0) (v := .long 1) (ty := .long) (C := RX0) (T := TX0) (N := 7) hx hb hts (in_cl (a := 0) rfl) tyX0 tyX0_ok nmX0 hown hK hP hD hS 0 rfl rfl 1 (by decide) (hts (.fieldLink RX0 15 RX0 "below" "J") (gw_of (List.mem_of_getElem? (i := 114) (by decide +kernel)) rfl)) (fun _ h9 => h9) rfl (by decide +kernel) rfl rfl (Nat.le_of_ble_eq_true rfl) di0_14 (fun H locs hP hD hS => ?_)
  have hP : va_P D vwCl [(h0, .inr (0, [.ref q1, .long 1, .int 0, .int 0, .int 0, .null, .null])), (q1, .inl (c4.2.1, 8, .inr (.inl (fun _ => 0))))] H := hP
  have hD : va_D A [(h0, .inr (0, [.ref q1, .long 1, .int 0, .int 0, .int 0, .null, .null])), (q1, .inl (c4.2.1, 8, .inr (.inl (fun _ => 0))))] := hD
  refine lv_aload_n hx hb di0_17 rfl (lv_at hl 0 rfl) ?_
  refine lv_bipush (v := 8) hx hb di0_18 (by decide) ?_
  refine newA (a0 := (8, .inl (fun _ => 0))) (N' := 8) hx hb (atype := .int) (hts (.arrayClass .int) (gw_of (List.mem_of_getElem? (i := 105) (by decide +kernel)) rfl)) (ty := .int) rfl (fun _ _ z => z) hK 0 rfl hP hD hS hA (fun _ => rfl) (by decide) (by decide) (by decide) (Nat.le_of_ble_eq_true rfl) (Nat.le_of_ble_eq_true rfl) di0_20 (fun q2 H hP hD hS => ?_)
  have hP : va_P D vwCl [(h0, .inr (0, [.ref q1, .long 1, .int 0, .int 0, .int 0, .null, .null])), (q1, .inl (c4.2.1, 8, .inr (.inl (fun _ => 0)))), (q2, .inl (c4.1, 8, .inl (fun _ => 0)))] H := hP
  have hD : va_D A [(h0, .inr (0, [.ref q1, .long 1, .int 0, .int 0, .int 0, .null, .null])), (q1, .inl (c4.2.1, 8, .inr (.inl (fun _ => 0)))), (q2, .inl (c4.1, 8, .inl (fun _ => 0)))] := hD
  refine W.widen (k := 2) (n := 16) (by omega) (by omega) ?_
  refine va_putF (D := D) (ci := 0) (v := .ref q2) (ty := .array .int) (C := RX0) (T := TX0) (N := 7) hx hb hts (in_cl (a := 0) rfl) tyX0 tyX0_ok nmX0 hown hK hP hD hS 0 rfl rfl 5 (by decide) (hts (.fieldLink RX0 19 RX0 "asked" "[I") (gw_of (List.mem_of_getElem? (i := 119) (by decide +kernel)) rfl)) (fun _ h9 => h9) rfl hin rfl (by decide +kernel) rfl rfl (Nat.le_of_ble_eq_true rfl) di0_22 (fun H locs hP hD hS => ?_)
  have hP : va_P D vwCl [(h0, .inr (0, [.ref q1, .long 1, .int 0, .int 0, .int 0, .ref q2, .null])), (q1, .inl (c4.2.1, 8, .inr (.inl (fun _ => 0)))), (q2, .inl (c4.1, 8, .inl (fun _ => 0)))] H := hP
  have hD : va_D A [(h0, .inr (0, [.ref q1, .long 1, .int 0, .int 0, .int 0, .ref q2, .null])), (q1, .inl (c4.2.1, 8, .inr (.inl (fun _ => 0)))), (q2, .inl (c4.1, 8, .inl (fun _ => 0)))] := hD
  refine lv_aload_n hx hb di0_25 rfl (lv_at hl 0 rfl) ?_
  refine lv_bipush (v := 72) hx hb di0_26 (by decide) ?_
  refine newA (a0 := (72, .inr (.inl (fun _ => 0)))) (N' := 72) hx hb (atype := .long) (hts (.arrayClass .long) (gw_of (List.mem_of_getElem? (i := 136) (by decide +kernel)) rfl)) (ty := .long) rfl (fun _ _ z => z) hK 1 rfl hP hD hS hA (fun _ => rfl) (by decide) (by decide) (by decide) (Nat.le_of_ble_eq_true rfl) (Nat.le_of_ble_eq_true rfl) di0_28 (fun q3 H hP hD hS => ?_)
  have hP : va_P D vwCl [(h0, .inr (0, [.ref q1, .long 1, .int 0, .int 0, .int 0, .ref q2, .null])), (q1, .inl (c4.2.1, 8, .inr (.inl (fun _ => 0)))), (q2, .inl (c4.1, 8, .inl (fun _ => 0))), (q3, .inl (c4.2.1, 72, .inr (.inl (fun _ => 0))))] H := hP
  have hD : va_D A [(h0, .inr (0, [.ref q1, .long 1, .int 0, .int 0, .int 0, .ref q2, .null])), (q1, .inl (c4.2.1, 8, .inr (.inl (fun _ => 0)))), (q2, .inl (c4.1, 8, .inl (fun _ => 0))), (q3, .inl (c4.2.1, 72, .inr (.inl (fun _ => 0))))] := hD
  refine W.widen (k := 3) (n := 88) (by omega) (by omega) ?_
  refine va_putF (D := D) (ci := 0) (v := .ref q3) (ty := .array .long) (C := RX0) (T := TX0) (N := 7) hx hb hts (in_cl (a := 0) rfl) tyX0 tyX0_ok nmX0 hown hK hP hD hS 0 rfl rfl 6 (by decide) (hts (.fieldLink RX0 23 RX0 "rows" "[J") (gw_of (List.mem_of_getElem? (i := 120) (by decide +kernel)) rfl)) (fun _ h9 => h9) rfl hin rfl (by decide +kernel) rfl rfl (Nat.le_of_ble_eq_true rfl) di0_30 (fun H locs hP hD hS => ?_)
  have hP : va_P D vwCl [(h0, .inr (0, [.ref q1, .long 1, .int 0, .int 0, .int 0, .ref q2, .ref q3])), (q1, .inl (c4.2.1, 8, .inr (.inl (fun _ => 0)))), (q2, .inl (c4.1, 8, .inl (fun _ => 0))), (q3, .inl (c4.2.1, 72, .inr (.inl (fun _ => 0))))] H := hP
  have hD : va_D A [(h0, .inr (0, [.ref q1, .long 1, .int 0, .int 0, .int 0, .ref q2, .ref q3])), (q1, .inl (c4.2.1, 8, .inr (.inl (fun _ => 0)))), (q2, .inl (c4.1, 8, .inl (fun _ => 0))), (q3, .inl (c4.2.1, 72, .inr (.inl (fun _ => 0))))] := hD
  exact W.vret hx hb hr (fun t ht hW => ⟨⟨(), rfl, trivial, q1, q2, q3, by rw [ht]; exact hP, hD⟩, hS.F ht⟩) hS.2.2 di0_33
set_option maxHeartbeats 8000000 in
set_option maxRecDepth 100000 in
theorem k_Town (l : Launch) (D : va_G) (c4 : C4) (h0 sz : Nat) : Met l yX3_init (.code yX3_init cX3_init 1 none :: GW) ({ frames := 1, cells := 6, slots := 104, locals := 12 }) (va_Pc [.ref h0] (fun U => U.heap.size = sz ∧ va_P D vwCl [(h0, .inr (3, [.int 0, .null, .null, .null, .null, .null, .int 0, .int 0, .null]))] U.heap ∧ va_K D vwCl (TY c4) U ∧ va_D (fun _ => True) [(h0, .inr (3, [.int 0, .null, .null, .null, .null, .null, .int 0, .int 0, .null]))])) (va_Qv (fun _ : Unit => True) (fun _ t => ∃ (q1 q2 q3 q4 q5 q6 : Nat), va_P D vwCl [(h0, .inr (3, [.int 0, .ref q1, .ref q2, .ref q3, .ref q4, .ref q5, .int 50, .int 0, .ref q6])), (q1, .inl (c4.1, 8, .inl (fun _ => 0))), (q2, .inl (c4.1, 8, .inl (fun _ => 0))), (q3, .inl (c4.1, 8, .inl (fun _ => 0))), (q4, .inl (c4.1, 8, .inl (fun _ => 0))), (q5, .inl (c4.1, 64, .inl (fun _ => 0))), (q6, .inl (c4.1, 8, .inl (fun _ => 0)))] t.heap ∧ va_D (va_A [(h0, .inr (3, [.int 0, .null, .null, .null, .null, .null, .int 0, .int 0, .null]))] sz) [(h0, .inr (3, [.int 0, .ref q1, .ref q2, .ref q3, .ref q4, .ref q5, .int 50, .int 0, .ref q6])), (q1, .inl (c4.1, 8, .inl (fun _ => 0))), (q2, .inl (c4.1, 8, .inl (fun _ => 0))), (q3, .inl (c4.1, 8, .inl (fun _ => 0))), (q4, .inl (c4.1, 8, .inl (fun _ => 0))), (q5, .inl (c4.1, 64, .inl (fun _ => 0))), (q6, .inl (c4.1, 8, .inl (fun _ => 0)))]) (va_A [(h0, .inr (3, [.int 0, .null, .null, .null, .null, .null, .int 0, .int 0, .null]))] sz)) 6 104 (va_A [(h0, .inr (3, [.int 0, .null, .null, .null, .null, .null, .int 0, .int 0, .null]))] sz) := by
  refine Met.ofW (cc := cX3_init) (maxL := 1) (ret := none) (by decide) rfl ?_
  intro p e s m args below meth c s₁ B hml hv
  obtain ⟨rfl, hsz, hP, hK, hD0⟩ := hv
  have hx := B.exec
  have hb := B.bytes
  have hr := B.returns
  have hts0 := atoms_spec (ws := .code yX3_init cX3_init 1 none :: GW) B.pre
  have hts : ∀ w ∈ GW, w.before _ s = true := fun w hw => hts0 w (List.mem_cons_of_mem _ hw)
  have hown : s.vm.findClass RX3 = some m.cls := findClass_of_methodNamed B.named
  have hlocks := B.notSynchronized
  have hin : meth.name = "<init>" := (name_of_methodNamed B.named B.method).1
  subst hsz
  have hD := hD0.self (sz := s.heap.size)
  generalize hAe : va_A [(h0, .inr (3, [.int 0, .null, .null, .null, .null, .null, .int 0, .int 0, .null]))] s.heap.size = A at hD ⊢
  have hA : ∀ q : Nat, s.heap.size ≤ q → A q := fun q h => by rw [← hAe]; exact Or.inr h
  clear hD0 hAe
  have hS : va_S A s.heap s.heap [] := va_S.rf
  have hl := lv_entry ([.ref h0]) (n := 1) (Nat.le_of_ble_eq_true rfl)
  rw [lg_entry_eq]
  generalize (lg_sl ([.ref h0]) ++ List.replicate (1 - (lg_sl ([.ref h0])).length) Slot.unset).toArray = ls at hl ⊢
  have hl : lv_has ls 1 [(0, .ref h0)] := hl
  refine lv_aload_n hx hb di3_0 rfl (lv_at hl 0 rfl) ?_
  refine W.objInit hx hb hown (hts (.methodLink RX3 3 objectInit) (gw_of (List.mem_of_getElem? (i := 64) (by decide +kernel)) rfl)) (hts (.instanceMethod objectInit) (gw_of (List.mem_of_getElem? (i := 57) (by decide +kernel)) rfl)) (hts (.code objectInit ⟨#[0xb1]⟩ 1 none) (gw_of (List.mem_of_getElem? (i := 58) rfl) rfl)) rfl (by rw [hml]; exact hl.1) rfl di3_1 (Nat.le_of_ble_eq_true rfl) (Nat.le_of_ble_eq_true rfl) ?_
  refine W.eq (g2 := F0 m 4 ls []) rfl ?_
  refine lv_aload_n hx hb di3_4 rfl (lv_at hl 0 rfl) ?_
  refine lv_bipush (v := 8) hx hb di3_5 (by decide) ?_
  refine newA (a0 := (8, .inl (fun _ => 0))) (N' := 8) hx hb (atype := .int) (hts (.arrayClass .int) (gw_of (List.mem_of_getElem? (i := 105) (by decide +kernel)) rfl)) (ty := .int) rfl (fun _ _ z => z) hK 0 rfl hP hD hS hA (fun _ => rfl) (by decide) (by decide) (by decide) (Nat.le_of_ble_eq_true rfl) (Nat.le_of_ble_eq_true rfl) di3_7 (fun q1 H hP hD hS => ?_)
  have hP : va_P D vwCl [(h0, .inr (3, [.int 0, .null, .null, .null, .null, .null, .int 0, .int 0, .null])), (q1, .inl (c4.1, 8, .inl (fun _ => 0)))] H := hP
  have hD : va_D A [(h0, .inr (3, [.int 0, .null, .null, .null, .null, .null, .int 0, .int 0, .null])), (q1, .inl (c4.1, 8, .inl (fun _ => 0)))] := hD
  refine W.widen (k := 1) (n := 8) (by omega) (by omega) ?_
  refine va_putF (D := D) (ci := 3) (v := .ref q1) (ty := .array .int) (C := RX3) (T := TX3) (N := 9) hx hb hts (in_cl (a := 3) rfl) tyX3 tyX3_ok nmX3 hown hK hP hD hS 0 rfl rfl 1 (by decide) (hts (.fieldLink RX3 9 RX3 "kinds" "[I") (gw_of (List.mem_of_getElem? (i := 69) (by decide +kernel)) rfl)) (fun _ h9 => h9) rfl hin rfl (by decide +kernel) rfl rfl (Nat.le_of_ble_eq_true rfl) di3_9 (fun H locs hP hD hS => ?_)
  have hP : va_P D vwCl [(h0, .inr (3, [.int 0, .ref q1, .null, .null, .null, .null, .int 0, .int 0, .null])), (q1, .inl (c4.1, 8, .inl (fun _ => 0)))] H := hP
  have hD : va_D A [(h0, .inr (3, [.int 0, .ref q1, .null, .null, .null, .null, .int 0, .int 0, .null])), (q1, .inl (c4.1, 8, .inl (fun _ => 0)))] := hD
  refine lv_aload_n hx hb di3_12 rfl (lv_at hl 0 rfl) ?_
  refine lv_bipush (v := 8) hx hb di3_13 (by decide) ?_
  refine newA (a0 := (8, .inl (fun _ => 0))) (N' := 8) hx hb (atype := .int) (hts (.arrayClass .int) (gw_of (List.mem_of_getElem? (i := 105) (by decide +kernel)) rfl)) (ty := .int) rfl (fun _ _ z => z) hK 0 rfl hP hD hS hA (fun _ => rfl) (by decide) (by decide) (by decide) (Nat.le_of_ble_eq_true rfl) (Nat.le_of_ble_eq_true rfl) di3_15 (fun q2 H hP hD hS => ?_)
  have hP : va_P D vwCl [(h0, .inr (3, [.int 0, .ref q1, .null, .null, .null, .null, .int 0, .int 0, .null])), (q1, .inl (c4.1, 8, .inl (fun _ => 0))), (q2, .inl (c4.1, 8, .inl (fun _ => 0)))] H := hP
  have hD : va_D A [(h0, .inr (3, [.int 0, .ref q1, .null, .null, .null, .null, .int 0, .int 0, .null])), (q1, .inl (c4.1, 8, .inl (fun _ => 0))), (q2, .inl (c4.1, 8, .inl (fun _ => 0)))] := hD
  refine W.widen (k := 2) (n := 16) (by omega) (by omega) ?_
  refine va_putF (D := D) (ci := 3) (v := .ref q2) (ty := .array .int) (C := RX3) (T := TX3) (N := 9) hx hb hts (in_cl (a := 3) rfl) tyX3 tyX3_ok nmX3 hown hK hP hD hS 0 rfl rfl 2 (by decide) (hts (.fieldLink RX3 15 RX3 "asks" "[I") (gw_of (List.mem_of_getElem? (i := 71) (by decide +kernel)) rfl)) (fun _ h9 => h9) rfl hin rfl (by decide +kernel) rfl rfl (Nat.le_of_ble_eq_true rfl) di3_17 (fun H locs hP hD hS => ?_)
  have hP : va_P D vwCl [(h0, .inr (3, [.int 0, .ref q1, .ref q2, .null, .null, .null, .int 0, .int 0, .null])), (q1, .inl (c4.1, 8, .inl (fun _ => 0))), (q2, .inl (c4.1, 8, .inl (fun _ => 0)))] H := hP
  have hD : va_D A [(h0, .inr (3, [.int 0, .ref q1, .ref q2, .null, .null, .null, .int 0, .int 0, .null])), (q1, .inl (c4.1, 8, .inl (fun _ => 0))), (q2, .inl (c4.1, 8, .inl (fun _ => 0)))] := hD
  refine lv_aload_n hx hb di3_20 rfl (lv_at hl 0 rfl) ?_
  refine lv_bipush (v := 8) hx hb di3_21 (by decide) ?_
  refine newA (a0 := (8, .inl (fun _ => 0))) (N' := 8) hx hb (atype := .int) (hts (.arrayClass .int) (gw_of (List.mem_of_getElem? (i := 105) (by decide +kernel)) rfl)) (ty := .int) rfl (fun _ _ z => z) hK 0 rfl hP hD hS hA (fun _ => rfl) (by decide) (by decide) (by decide) (Nat.le_of_ble_eq_true rfl) (Nat.le_of_ble_eq_true rfl) di3_23 (fun q3 H hP hD hS => ?_)
  have hP : va_P D vwCl [(h0, .inr (3, [.int 0, .ref q1, .ref q2, .null, .null, .null, .int 0, .int 0, .null])), (q1, .inl (c4.1, 8, .inl (fun _ => 0))), (q2, .inl (c4.1, 8, .inl (fun _ => 0))), (q3, .inl (c4.1, 8, .inl (fun _ => 0)))] H := hP
  have hD : va_D A [(h0, .inr (3, [.int 0, .ref q1, .ref q2, .null, .null, .null, .int 0, .int 0, .null])), (q1, .inl (c4.1, 8, .inl (fun _ => 0))), (q2, .inl (c4.1, 8, .inl (fun _ => 0))), (q3, .inl (c4.1, 8, .inl (fun _ => 0)))] := hD
  refine W.widen (k := 3) (n := 24) (by omega) (by omega) ?_
  refine va_putF (D := D) (ci := 3) (v := .ref q3) (ty := .array .int) (C := RX3) (T := TX3) (N := 9) hx hb hts (in_cl (a := 3) rfl) tyX3 tyX3_ok nmX3 hown hK hP hD hS 0 rfl rfl 3 (by decide) (hts (.fieldLink RX3 18 RX3 "owners" "[I") (gw_of (List.mem_of_getElem? (i := 74) (by decide +kernel)) rfl)) (fun _ h9 => h9) rfl hin rfl (by decide +kernel) rfl rfl (Nat.le_of_ble_eq_true rfl) di3_25 (fun H locs hP hD hS => ?_)
  have hP : va_P D vwCl [(h0, .inr (3, [.int 0, .ref q1, .ref q2, .ref q3, .null, .null, .int 0, .int 0, .null])), (q1, .inl (c4.1, 8, .inl (fun _ => 0))), (q2, .inl (c4.1, 8, .inl (fun _ => 0))), (q3, .inl (c4.1, 8, .inl (fun _ => 0)))] H := hP
  have hD : va_D A [(h0, .inr (3, [.int 0, .ref q1, .ref q2, .ref q3, .null, .null, .int 0, .int 0, .null])), (q1, .inl (c4.1, 8, .inl (fun _ => 0))), (q2, .inl (c4.1, 8, .inl (fun _ => 0))), (q3, .inl (c4.1, 8, .inl (fun _ => 0)))] := hD
  refine lv_aload_n hx hb di3_28 rfl (lv_at hl 0 rfl) ?_
  refine lv_bipush (v := 8) hx hb di3_29 (by decide) ?_
  refine newA (a0 := (8, .inl (fun _ => 0))) (N' := 8) hx hb (atype := .int) (hts (.arrayClass .int) (gw_of (List.mem_of_getElem? (i := 105) (by decide +kernel)) rfl)) (ty := .int) rfl (fun _ _ z => z) hK 0 rfl hP hD hS hA (fun _ => rfl) (by decide) (by decide) (by decide) (Nat.le_of_ble_eq_true rfl) (Nat.le_of_ble_eq_true rfl) di3_31 (fun q4 H hP hD hS => ?_)
  have hP : va_P D vwCl [(h0, .inr (3, [.int 0, .ref q1, .ref q2, .ref q3, .null, .null, .int 0, .int 0, .null])), (q1, .inl (c4.1, 8, .inl (fun _ => 0))), (q2, .inl (c4.1, 8, .inl (fun _ => 0))), (q3, .inl (c4.1, 8, .inl (fun _ => 0))), (q4, .inl (c4.1, 8, .inl (fun _ => 0)))] H := hP
  have hD : va_D A [(h0, .inr (3, [.int 0, .ref q1, .ref q2, .ref q3, .null, .null, .int 0, .int 0, .null])), (q1, .inl (c4.1, 8, .inl (fun _ => 0))), (q2, .inl (c4.1, 8, .inl (fun _ => 0))), (q3, .inl (c4.1, 8, .inl (fun _ => 0))), (q4, .inl (c4.1, 8, .inl (fun _ => 0)))] := hD
  refine W.widen (k := 4) (n := 32) (by omega) (by omega) ?_
  refine va_putF (D := D) (ci := 3) (v := .ref q4) (ty := .array .int) (C := RX3) (T := TX3) (N := 9) hx hb hts (in_cl (a := 3) rfl) tyX3 tyX3_ok nmX3 hown hK hP hD hS 0 rfl rfl 4 (by decide) (hts (.fieldLink RX3 21 RX3 "caps" "[I") (gw_of (List.mem_of_getElem? (i := 77) (by decide +kernel)) rfl)) (fun _ h9 => h9) rfl hin rfl (by decide +kernel) rfl rfl (Nat.le_of_ble_eq_true rfl) di3_33 (fun H locs hP hD hS => ?_)
  have hP : va_P D vwCl [(h0, .inr (3, [.int 0, .ref q1, .ref q2, .ref q3, .ref q4, .null, .int 0, .int 0, .null])), (q1, .inl (c4.1, 8, .inl (fun _ => 0))), (q2, .inl (c4.1, 8, .inl (fun _ => 0))), (q3, .inl (c4.1, 8, .inl (fun _ => 0))), (q4, .inl (c4.1, 8, .inl (fun _ => 0)))] H := hP
  have hD : va_D A [(h0, .inr (3, [.int 0, .ref q1, .ref q2, .ref q3, .ref q4, .null, .int 0, .int 0, .null])), (q1, .inl (c4.1, 8, .inl (fun _ => 0))), (q2, .inl (c4.1, 8, .inl (fun _ => 0))), (q3, .inl (c4.1, 8, .inl (fun _ => 0))), (q4, .inl (c4.1, 8, .inl (fun _ => 0)))] := hD
  refine lv_aload_n hx hb di3_36 rfl (lv_at hl 0 rfl) ?_
  refine lv_bipush (v := 64) hx hb di3_37 (by decide) ?_
  refine newA (a0 := (64, .inl (fun _ => 0))) (N' := 64) hx hb (atype := .int) (hts (.arrayClass .int) (gw_of (List.mem_of_getElem? (i := 105) (by decide +kernel)) rfl)) (ty := .int) rfl (fun _ _ z => z) hK 0 rfl hP hD hS hA (fun _ => rfl) (by decide) (by decide) (by decide) (Nat.le_of_ble_eq_true rfl) (Nat.le_of_ble_eq_true rfl) di3_39 (fun q5 H hP hD hS => ?_)
  have hP : va_P D vwCl [(h0, .inr (3, [.int 0, .ref q1, .ref q2, .ref q3, .ref q4, .null, .int 0, .int 0, .null])), (q1, .inl (c4.1, 8, .inl (fun _ => 0))), (q2, .inl (c4.1, 8, .inl (fun _ => 0))), (q3, .inl (c4.1, 8, .inl (fun _ => 0))), (q4, .inl (c4.1, 8, .inl (fun _ => 0))), (q5, .inl (c4.1, 64, .inl (fun _ => 0)))] H := hP
  have hD : va_D A [(h0, .inr (3, [.int 0, .ref q1, .ref q2, .ref q3, .ref q4, .null, .int 0, .int 0, .null])), (q1, .inl (c4.1, 8, .inl (fun _ => 0))), (q2, .inl (c4.1, 8, .inl (fun _ => 0))), (q3, .inl (c4.1, 8, .inl (fun _ => 0))), (q4, .inl (c4.1, 8, .inl (fun _ => 0))), (q5, .inl (c4.1, 64, .inl (fun _ => 0)))] := hD
  refine W.widen (k := 5) (n := 96) (by omega) (by omega) ?_
  refine va_putF (D := D) (ci := 3) (v := .ref q5) (ty := .array .int) (C := RX3) (T := TX3) (N := 9) hx hb hts (in_cl (a := 3) rfl) tyX3 tyX3_ok nmX3 hown hK hP hD hS 0 rfl rfl 5 (by decide) (hts (.fieldLink RX3 24 RX3 "shares" "[I") (gw_of (List.mem_of_getElem? (i := 79) (by decide +kernel)) rfl)) (fun _ h9 => h9) rfl hin rfl (by decide +kernel) rfl rfl (Nat.le_of_ble_eq_true rfl) di3_41 (fun H locs hP hD hS => ?_)
  have hP : va_P D vwCl [(h0, .inr (3, [.int 0, .ref q1, .ref q2, .ref q3, .ref q4, .ref q5, .int 0, .int 0, .null])), (q1, .inl (c4.1, 8, .inl (fun _ => 0))), (q2, .inl (c4.1, 8, .inl (fun _ => 0))), (q3, .inl (c4.1, 8, .inl (fun _ => 0))), (q4, .inl (c4.1, 8, .inl (fun _ => 0))), (q5, .inl (c4.1, 64, .inl (fun _ => 0)))] H := hP
  have hD : va_D A [(h0, .inr (3, [.int 0, .ref q1, .ref q2, .ref q3, .ref q4, .ref q5, .int 0, .int 0, .null])), (q1, .inl (c4.1, 8, .inl (fun _ => 0))), (q2, .inl (c4.1, 8, .inl (fun _ => 0))), (q3, .inl (c4.1, 8, .inl (fun _ => 0))), (q4, .inl (c4.1, 8, .inl (fun _ => 0))), (q5, .inl (c4.1, 64, .inl (fun _ => 0)))] := hD
  refine lv_aload_n hx hb di3_44 rfl (lv_at hl 0 rfl) ?_
  refine lv_bipush (v := 50) hx hb di3_45 (by decide) ?_
  refine va_put (D := D) (ci := 3) (v := .int 50) (ty := .int) (C := RX3) (T := TX3) (N := 9) hx hb hts (in_cl (a := 3) rfl) tyX3 tyX3_ok nmX3 hown hK hP hD hS 0 rfl rfl 6 (by decide) (hts (.fieldLink RX3 27 RX3 "purse" "I") (gw_of (List.mem_of_getElem? (i := 80) (by decide +kernel)) rfl)) (fun _ h9 => h9) rfl (by decide +kernel) rfl rfl (Nat.le_of_ble_eq_true rfl) di3_47 (fun H locs hP hD hS => ?_)
  have hP : va_P D vwCl [(h0, .inr (3, [.int 0, .ref q1, .ref q2, .ref q3, .ref q4, .ref q5, .int 50, .int 0, .null])), (q1, .inl (c4.1, 8, .inl (fun _ => 0))), (q2, .inl (c4.1, 8, .inl (fun _ => 0))), (q3, .inl (c4.1, 8, .inl (fun _ => 0))), (q4, .inl (c4.1, 8, .inl (fun _ => 0))), (q5, .inl (c4.1, 64, .inl (fun _ => 0)))] H := hP
  have hD : va_D A [(h0, .inr (3, [.int 0, .ref q1, .ref q2, .ref q3, .ref q4, .ref q5, .int 50, .int 0, .null])), (q1, .inl (c4.1, 8, .inl (fun _ => 0))), (q2, .inl (c4.1, 8, .inl (fun _ => 0))), (q3, .inl (c4.1, 8, .inl (fun _ => 0))), (q4, .inl (c4.1, 8, .inl (fun _ => 0))), (q5, .inl (c4.1, 64, .inl (fun _ => 0)))] := hD
  refine lv_aload_n hx hb di3_50 rfl (lv_at hl 0 rfl) ?_
  refine lv_bipush (v := 8) hx hb di3_51 (by decide) ?_
  refine newA (a0 := (8, .inl (fun _ => 0))) (N' := 8) hx hb (atype := .int) (hts (.arrayClass .int) (gw_of (List.mem_of_getElem? (i := 105) (by decide +kernel)) rfl)) (ty := .int) rfl (fun _ _ z => z) hK 0 rfl hP hD hS hA (fun _ => rfl) (by decide) (by decide) (by decide) (Nat.le_of_ble_eq_true rfl) (Nat.le_of_ble_eq_true rfl) di3_53 (fun q6 H hP hD hS => ?_)
  have hP : va_P D vwCl [(h0, .inr (3, [.int 0, .ref q1, .ref q2, .ref q3, .ref q4, .ref q5, .int 50, .int 0, .null])), (q1, .inl (c4.1, 8, .inl (fun _ => 0))), (q2, .inl (c4.1, 8, .inl (fun _ => 0))), (q3, .inl (c4.1, 8, .inl (fun _ => 0))), (q4, .inl (c4.1, 8, .inl (fun _ => 0))), (q5, .inl (c4.1, 64, .inl (fun _ => 0))), (q6, .inl (c4.1, 8, .inl (fun _ => 0)))] H := hP
  have hD : va_D A [(h0, .inr (3, [.int 0, .ref q1, .ref q2, .ref q3, .ref q4, .ref q5, .int 50, .int 0, .null])), (q1, .inl (c4.1, 8, .inl (fun _ => 0))), (q2, .inl (c4.1, 8, .inl (fun _ => 0))), (q3, .inl (c4.1, 8, .inl (fun _ => 0))), (q4, .inl (c4.1, 8, .inl (fun _ => 0))), (q5, .inl (c4.1, 64, .inl (fun _ => 0))), (q6, .inl (c4.1, 8, .inl (fun _ => 0)))] := hD
  refine W.widen (k := 6) (n := 104) (by omega) (by omega) ?_
  refine va_putF (D := D) (ci := 3) (v := .ref q6) (ty := .array .int) (C := RX3) (T := TX3) (N := 9) hx hb hts (in_cl (a := 3) rfl) tyX3 tyX3_ok nmX3 hown hK hP hD hS 0 rfl rfl 8 (by decide) (hts (.fieldLink RX3 31 RX3 "askedAhead" "[I") (gw_of (List.mem_of_getElem? (i := 85) (by decide +kernel)) rfl)) (fun _ h9 => h9) rfl hin rfl (by decide +kernel) rfl rfl (Nat.le_of_ble_eq_true rfl) di3_55 (fun H locs hP hD hS => ?_)
  have hP : va_P D vwCl [(h0, .inr (3, [.int 0, .ref q1, .ref q2, .ref q3, .ref q4, .ref q5, .int 50, .int 0, .ref q6])), (q1, .inl (c4.1, 8, .inl (fun _ => 0))), (q2, .inl (c4.1, 8, .inl (fun _ => 0))), (q3, .inl (c4.1, 8, .inl (fun _ => 0))), (q4, .inl (c4.1, 8, .inl (fun _ => 0))), (q5, .inl (c4.1, 64, .inl (fun _ => 0))), (q6, .inl (c4.1, 8, .inl (fun _ => 0)))] H := hP
  have hD : va_D A [(h0, .inr (3, [.int 0, .ref q1, .ref q2, .ref q3, .ref q4, .ref q5, .int 50, .int 0, .ref q6])), (q1, .inl (c4.1, 8, .inl (fun _ => 0))), (q2, .inl (c4.1, 8, .inl (fun _ => 0))), (q3, .inl (c4.1, 8, .inl (fun _ => 0))), (q4, .inl (c4.1, 8, .inl (fun _ => 0))), (q5, .inl (c4.1, 64, .inl (fun _ => 0))), (q6, .inl (c4.1, 8, .inl (fun _ => 0)))] := hD
  exact W.vret hx hb hr (fun t ht hW => ⟨⟨(), rfl, trivial, q1, q2, q3, q4, q5, q6, by rw [ht]; exact hP, hD⟩, hS.F ht⟩) hS.2.2 di3_58

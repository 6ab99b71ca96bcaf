/-! THE TABLES' WORDS that the own machine's code stands on, checked by program -/
def mxL (k : Nat) : Nat := maxT.getD k 0
def own (k : Nat) : Nat := ownT.getD k 99
def byt (k : Nat) : ByteArray := bytT.getD k ByteArray.empty
def nam (k : Nat) : MethodName := namT.getD k ⟨"", "", ""⟩
def rett (k : Nat) : Option FieldType := retT.getD k none
def frm (k : Nat) : Nat := frmT.getD k 0
def lco (k : Nat) : Nat := locT.getD k 0
def clN (o : Nat) : String := clsT.getD o ""
def GW : List Cond := lw_tbl.filter goodWord
def NW : List Cond := [.methodLinkNest "MeanTown$Town" 56 yX4_isIn "MeanTown", .methodLinkNest "MeanTown$Tape" 19 yX4_byteOf "MeanTown", .methodLinkNest "MeanTown$Rents" 30 yX4_isIn "MeanTown"]
theorem gw_of {w : Cond} (h : w ∈ lw_tbl) (hg : goodWord w = true) : w ∈ GW := List.mem_filter.mpr ⟨h, hg⟩
theorem gw_in {w : Cond} (h : w ∈ GW) : w ∈ lw_tbl := (List.mem_filter.mp h).1
theorem gw_good {w : Cond} (h : w ∈ GW) : goodWord w = true := (List.mem_filter.mp h).2
theorem nw_in : ∀ w ∈ NW, w ∈ lw_tbl := by decide +kernel
def FOKb (e : Nat × Nat × Nat × Nat) : Bool := match vwCl[e.2.2.1]? with
  | some (_, T, N) => decide (e.2.2.2 < N) && decide (Cond.fieldLink (clN e.1) e.2.1 (T e.2.2.2).1 (T e.2.2.2).2.1 (T e.2.2.2).2.2.1 ∈ lw_tbl)
  | none => false
theorem fldOK : fldT.all FOKb = true := by decide +kernel
theorem inAll : vwCl.all (fun q => (u_ws q.1 q.2.1 q.2.2).all (fun w => decide (w ∈ lw_tbl) && goodWord w)) = true := by decide +kernel
def COK (k : Nat) : Prop := Cond.code (nam k) (byt k) (mxL k) (rett k) ∈ lw_tbl ∧ plainName (nam k).cls = true ∧ ((nam k).cls ≠ "java/lang/invoke/MethodHandle" ∧ (nam k).cls ≠ "java/lang/invoke/VarHandle") ∧ (nam k).cls = clN (own k)
def MOK (e : Nat × Nat × Nat × Nat) : Prop := match e with
  | (o, i, k, 0) => Cond.methodLink (clN o) i (nam k) ∈ lw_tbl ∧ Cond.instanceMethod (nam k) ∈ lw_tbl ∧ Cond.selects (nam k).cls (nam k) (nam k) ∈ lw_tbl ∧ Cond.initialized (nam k).cls ∈ lw_tbl ∧ k < 144
  | (o, i, k, 1) => Cond.methodLink (clN o) i (nam k) ∈ lw_tbl ∧ Cond.static (nam k) ∈ lw_tbl ∧ Cond.initialized (nam k).cls ∈ lw_tbl ∧ k < 144
  | (o, i, k, 2) => Cond.methodLinkNest (clN o) i (nam k) "MeanTown" ∈ NW ∧ Cond.static (nam k) ∈ lw_tbl ∧ Cond.initialized (nam k).cls ∈ lw_tbl ∧ k < 144
  | (o, i, _, 3) => Cond.methodLink (clN o) i arraycopyName ∈ lw_tbl ∧ Cond.native arraycopyName ∈ lw_tbl ∧ Cond.static arraycopyName ∈ lw_tbl ∧ Cond.initialized "java/lang/System" ∈ lw_tbl
  | (o, i, _, 4) => Cond.methodLink (clN o) i Lib.Math.min.name ∈ lw_tbl ∧ Cond.static Lib.Math.min.name ∈ lw_tbl ∧ Cond.initialized "java/lang/Math" ∈ lw_tbl ∧ Cond.code Lib.Math.min.name Lib.Math.min.code 2 (some .int) ∈ lw_tbl
  | (o, i, _, 5) => Cond.methodLink (clN o) i Lib.Math.max.name ∈ lw_tbl ∧ Cond.static Lib.Math.max.name ∈ lw_tbl ∧ Cond.initialized "java/lang/Math" ∈ lw_tbl ∧ Cond.code Lib.Math.max.name Lib.Math.max.code 2 (some .int) ∈ lw_tbl
  | (o, i, _, 6) => Cond.methodLink (clN o) i Lib.MathLoose.abs_long.x ∈ lw_tbl ∧ Cond.static Lib.MathLoose.abs_long.x ∈ lw_tbl ∧ Cond.initialized "java/lang/Math" ∈ lw_tbl ∧ Cond.code Lib.MathLoose.abs_long.x Lib.MathLoose.abs_long.code 2 (some .long) ∈ lw_tbl
  | _ => False
def KOK (e : Nat × Nat × Value) : Prop := match e with
  | (o, i, .long z) => Cond.constantLong (clN o) i z ∈ lw_tbl
  | (o, i, .int z) => Cond.constant (clN o) i z ∈ lw_tbl
  | _ => False
theorem mo_0 : MOK (0, 30, 75, 2) := ⟨by decide +kernel, List.mem_of_getElem? (i := 279) (by decide +kernel), List.mem_of_getElem? (i := 42) (by decide +kernel), by decide⟩
theorem mo_1 : MOK (0, 40, 36, 0) := ⟨List.mem_of_getElem? (i := 389) (by decide +kernel), List.mem_of_getElem? (i := 267) (by decide +kernel), List.mem_of_getElem? (i := 268) (by decide +kernel), List.mem_of_getElem? (i := 43) (by decide +kernel), by decide⟩
theorem mo_2 : MOK (0, 44, 35, 0) := ⟨List.mem_of_getElem? (i := 390) (by decide +kernel), List.mem_of_getElem? (i := 271) (by decide +kernel), List.mem_of_getElem? (i := 272) (by decide +kernel), List.mem_of_getElem? (i := 43) (by decide +kernel), by decide⟩
theorem mo_3 : MOK (0, 50, 3, 0) := ⟨List.mem_of_getElem? (i := 391) (by decide +kernel), List.mem_of_getElem? (i := 393) (by decide +kernel), List.mem_of_getElem? (i := 7) (by decide +kernel), List.mem_of_getElem? (i := 44) (by decide +kernel), by decide⟩
theorem mo_4 : MOK (0, 54, 4, 0) := ⟨List.mem_of_getElem? (i := 398) (by decide +kernel), List.mem_of_getElem? (i := 400) (by decide +kernel), List.mem_of_getElem? (i := 8) (by decide +kernel), List.mem_of_getElem? (i := 44) (by decide +kernel), by decide⟩
theorem mo_5 : MOK (0, 60, 999, 3) := ⟨List.mem_of_getElem? (i := 406) (by decide +kernel), List.mem_of_getElem? (i := 312) (by decide +kernel), List.mem_of_getElem? (i := 311) (by decide +kernel), List.mem_of_getElem? (i := 48) (by decide +kernel)⟩
theorem mo_6 : MOK (0, 66, 1, 0) := ⟨List.mem_of_getElem? (i := 407) (by decide +kernel), List.mem_of_getElem? (i := 408) (by decide +kernel), List.mem_of_getElem? (i := 409) (by decide +kernel), List.mem_of_getElem? (i := 44) (by decide +kernel), by decide⟩
theorem mo_7 : MOK (0, 70, 6, 0) := ⟨List.mem_of_getElem? (i := 411) (by decide +kernel), List.mem_of_getElem? (i := 413) (by decide +kernel), List.mem_of_getElem? (i := 10) (by decide +kernel), List.mem_of_getElem? (i := 44) (by decide +kernel), by decide⟩
theorem mo_8 : MOK (0, 74, 29, 0) := ⟨List.mem_of_getElem? (i := 396) (by decide +kernel), List.mem_of_getElem? (i := 234) (by decide +kernel), List.mem_of_getElem? (i := 235) (by decide +kernel), List.mem_of_getElem? (i := 43) (by decide +kernel), by decide⟩
theorem mo_9 : MOK (0, 78, 33, 0) := ⟨List.mem_of_getElem? (i := 397) (by decide +kernel), List.mem_of_getElem? (i := 262) (by decide +kernel), List.mem_of_getElem? (i := 263) (by decide +kernel), List.mem_of_getElem? (i := 43) (by decide +kernel), by decide⟩
theorem mo_10 : MOK (0, 82, 5, 0) := ⟨List.mem_of_getElem? (i := 402) (by decide +kernel), List.mem_of_getElem? (i := 404) (by decide +kernel), List.mem_of_getElem? (i := 9) (by decide +kernel), List.mem_of_getElem? (i := 44) (by decide +kernel), by decide⟩
theorem mo_11 : MOK (0, 86, 7, 0) := ⟨List.mem_of_getElem? (i := 415) (by decide +kernel), List.mem_of_getElem? (i := 416) (by decide +kernel), List.mem_of_getElem? (i := 417) (by decide +kernel), List.mem_of_getElem? (i := 44) (by decide +kernel), by decide⟩
theorem mo_12 : MOK (0, 96, 999, 6) := ⟨List.mem_of_getElem? (i := 486) (by decide +kernel), List.mem_of_getElem? (i := 425) (by decide +kernel), List.mem_of_getElem? (i := 49) (by decide +kernel), List.mem_of_getElem? (i := 426) (by decide +kernel)⟩
theorem mo_13 : MOK (2, 19, 77, 2) := ⟨by decide +kernel, List.mem_of_getElem? (i := 294) (by decide +kernel), List.mem_of_getElem? (i := 42) (by decide +kernel), by decide⟩
theorem mo_14 : MOK (2, 26, 16, 0) := ⟨List.mem_of_getElem? (i := 321) (by decide +kernel), List.mem_of_getElem? (i := 323) (by decide +kernel), List.mem_of_getElem? (i := 1) (by decide +kernel), List.mem_of_getElem? (i := 45) (by decide +kernel), by decide⟩
theorem mo_15 : MOK (2, 30, 17, 0) := ⟨List.mem_of_getElem? (i := 347) (by decide +kernel), List.mem_of_getElem? (i := 349) (by decide +kernel), List.mem_of_getElem? (i := 5) (by decide +kernel), List.mem_of_getElem? (i := 45) (by decide +kernel), by decide⟩
theorem mo_16 : MOK (2, 38, 20, 0) := ⟨List.mem_of_getElem? (i := 325) (by decide +kernel), List.mem_of_getElem? (i := 327) (by decide +kernel), List.mem_of_getElem? (i := 2) (by decide +kernel), List.mem_of_getElem? (i := 45) (by decide +kernel), by decide⟩
theorem mo_17 : MOK (2, 42, 21, 1) := ⟨List.mem_of_getElem? (i := 329) (by decide +kernel), List.mem_of_getElem? (i := 330) (by decide +kernel), List.mem_of_getElem? (i := 45) (by decide +kernel), by decide⟩
theorem mo_18 : MOK (2, 46, 18, 0) := ⟨List.mem_of_getElem? (i := 332) (by decide +kernel), List.mem_of_getElem? (i := 334) (by decide +kernel), List.mem_of_getElem? (i := 3) (by decide +kernel), List.mem_of_getElem? (i := 45) (by decide +kernel), by decide⟩
theorem mo_19 : MOK (2, 49, 24, 0) := ⟨List.mem_of_getElem? (i := 336) (by decide +kernel), List.mem_of_getElem? (i := 338) (by decide +kernel), List.mem_of_getElem? (i := 4) (by decide +kernel), List.mem_of_getElem? (i := 45) (by decide +kernel), by decide⟩
theorem mo_20 : MOK (2, 52, 28, 0) := ⟨List.mem_of_getElem? (i := 346) (by decide +kernel), List.mem_of_getElem? (i := 215) (by decide +kernel), List.mem_of_getElem? (i := 216) (by decide +kernel), List.mem_of_getElem? (i := 43) (by decide +kernel), by decide⟩
theorem mo_21 : MOK (2, 56, 23, 0) := ⟨List.mem_of_getElem? (i := 351) (by decide +kernel), List.mem_of_getElem? (i := 353) (by decide +kernel), List.mem_of_getElem? (i := 6) (by decide +kernel), List.mem_of_getElem? (i := 45) (by decide +kernel), by decide⟩
theorem mo_22 : MOK (2, 59, 22, 1) := ⟨List.mem_of_getElem? (i := 340) (by decide +kernel), List.mem_of_getElem? (i := 341) (by decide +kernel), List.mem_of_getElem? (i := 45) (by decide +kernel), by decide⟩
theorem mo_23 : MOK (2, 62, 19, 1) := ⟨List.mem_of_getElem? (i := 355) (by decide +kernel), List.mem_of_getElem? (i := 356) (by decide +kernel), List.mem_of_getElem? (i := 45) (by decide +kernel), by decide⟩
theorem mo_24 : MOK (2, 65, 30, 0) := ⟨List.mem_of_getElem? (i := 361) (by decide +kernel), List.mem_of_getElem? (i := 238) (by decide +kernel), List.mem_of_getElem? (i := 239) (by decide +kernel), List.mem_of_getElem? (i := 43) (by decide +kernel), by decide⟩
theorem mo_25 : MOK (2, 69, 999, 4) := ⟨List.mem_of_getElem? (i := 343) (by decide +kernel), List.mem_of_getElem? (i := 344) (by decide +kernel), List.mem_of_getElem? (i := 49) (by decide +kernel), List.mem_of_getElem? (i := 345) (by decide +kernel)⟩
theorem mo_26 : MOK (2, 74, 999, 5) := ⟨List.mem_of_getElem? (i := 358) (by decide +kernel), List.mem_of_getElem? (i := 359) (by decide +kernel), List.mem_of_getElem? (i := 49) (by decide +kernel), List.mem_of_getElem? (i := 360) (by decide +kernel)⟩
theorem mo_27 : MOK (3, 37, 25, 0) := ⟨List.mem_of_getElem? (i := 226) (by decide +kernel), List.mem_of_getElem? (i := 227) (by decide +kernel), List.mem_of_getElem? (i := 228) (by decide +kernel), List.mem_of_getElem? (i := 43) (by decide +kernel), by decide⟩
theorem mo_28 : MOK (3, 41, 30, 0) := ⟨List.mem_of_getElem? (i := 463) (by decide +kernel), List.mem_of_getElem? (i := 238) (by decide +kernel), List.mem_of_getElem? (i := 239) (by decide +kernel), List.mem_of_getElem? (i := 43) (by decide +kernel), by decide⟩
theorem mo_29 : MOK (3, 45, 29, 0) := ⟨List.mem_of_getElem? (i := 265) (by decide +kernel), List.mem_of_getElem? (i := 234) (by decide +kernel), List.mem_of_getElem? (i := 235) (by decide +kernel), List.mem_of_getElem? (i := 43) (by decide +kernel), by decide⟩
theorem mo_30 : MOK (3, 49, 27, 0) := ⟨List.mem_of_getElem? (i := 274) (by decide +kernel), List.mem_of_getElem? (i := 275) (by decide +kernel), List.mem_of_getElem? (i := 276) (by decide +kernel), List.mem_of_getElem? (i := 43) (by decide +kernel), by decide⟩
theorem mo_31 : MOK (3, 52, 35, 0) := ⟨List.mem_of_getElem? (i := 270) (by decide +kernel), List.mem_of_getElem? (i := 271) (by decide +kernel), List.mem_of_getElem? (i := 272) (by decide +kernel), List.mem_of_getElem? (i := 43) (by decide +kernel), by decide⟩
theorem mo_32 : MOK (3, 56, 75, 2) := ⟨by decide +kernel, List.mem_of_getElem? (i := 279) (by decide +kernel), List.mem_of_getElem? (i := 42) (by decide +kernel), by decide⟩
theorem mo_33 : MOK (3, 60, 37, 0) := ⟨List.mem_of_getElem? (i := 281) (by decide +kernel), List.mem_of_getElem? (i := 283) (by decide +kernel), List.mem_of_getElem? (i := 0) (by decide +kernel), List.mem_of_getElem? (i := 43) (by decide +kernel), by decide⟩
theorem mo_34 : MOK (3, 64, 999, 3) := ⟨List.mem_of_getElem? (i := 310) (by decide +kernel), List.mem_of_getElem? (i := 312) (by decide +kernel), List.mem_of_getElem? (i := 311) (by decide +kernel), List.mem_of_getElem? (i := 48) (by decide +kernel)⟩
theorem mo_35 : MOK (3, 70, 39, 0) := ⟨List.mem_of_getElem? (i := 472) (by decide +kernel), List.mem_of_getElem? (i := 474) (by decide +kernel), List.mem_of_getElem? (i := 12) (by decide +kernel), List.mem_of_getElem? (i := 43) (by decide +kernel), by decide⟩
theorem mo_36 : MOK (3, 73, 33, 0) := ⟨List.mem_of_getElem? (i := 476) (by decide +kernel), List.mem_of_getElem? (i := 262) (by decide +kernel), List.mem_of_getElem? (i := 263) (by decide +kernel), List.mem_of_getElem? (i := 43) (by decide +kernel), by decide⟩
theorem mo_37 : MOK (3, 76, 999, 4) := ⟨List.mem_of_getElem? (i := 477) (by decide +kernel), List.mem_of_getElem? (i := 344) (by decide +kernel), List.mem_of_getElem? (i := 49) (by decide +kernel), List.mem_of_getElem? (i := 345) (by decide +kernel)⟩
theorem mo_38 : MOK (4, 50, 69, 1) := ⟨List.mem_of_getElem? (i := 211) (by decide +kernel), List.mem_of_getElem? (i := 212) (by decide +kernel), List.mem_of_getElem? (i := 42) (by decide +kernel), by decide⟩
theorem mo_39 : MOK (4, 58, 28, 0) := ⟨List.mem_of_getElem? (i := 214) (by decide +kernel), List.mem_of_getElem? (i := 215) (by decide +kernel), List.mem_of_getElem? (i := 216) (by decide +kernel), List.mem_of_getElem? (i := 43) (by decide +kernel), by decide⟩
theorem mo_40 : MOK (4, 62, 26, 0) := ⟨List.mem_of_getElem? (i := 222) (by decide +kernel), List.mem_of_getElem? (i := 223) (by decide +kernel), List.mem_of_getElem? (i := 224) (by decide +kernel), List.mem_of_getElem? (i := 43) (by decide +kernel), by decide⟩
theorem mo_41 : MOK (4, 66, 70, 1) := ⟨List.mem_of_getElem? (i := 230) (by decide +kernel), List.mem_of_getElem? (i := 231) (by decide +kernel), List.mem_of_getElem? (i := 42) (by decide +kernel), by decide⟩
theorem mo_42 : MOK (4, 69, 29, 0) := ⟨List.mem_of_getElem? (i := 233) (by decide +kernel), List.mem_of_getElem? (i := 234) (by decide +kernel), List.mem_of_getElem? (i := 235) (by decide +kernel), List.mem_of_getElem? (i := 43) (by decide +kernel), by decide⟩
theorem mo_43 : MOK (4, 72, 30, 0) := ⟨List.mem_of_getElem? (i := 237) (by decide +kernel), List.mem_of_getElem? (i := 238) (by decide +kernel), List.mem_of_getElem? (i := 239) (by decide +kernel), List.mem_of_getElem? (i := 43) (by decide +kernel), by decide⟩
theorem mo_44 : MOK (4, 76, 25, 0) := ⟨List.mem_of_getElem? (i := 245) (by decide +kernel), List.mem_of_getElem? (i := 227) (by decide +kernel), List.mem_of_getElem? (i := 228) (by decide +kernel), List.mem_of_getElem? (i := 43) (by decide +kernel), by decide⟩
theorem mo_45 : MOK (4, 86, 71, 1) := ⟨List.mem_of_getElem? (i := 250) (by decide +kernel), List.mem_of_getElem? (i := 251) (by decide +kernel), List.mem_of_getElem? (i := 42) (by decide +kernel), by decide⟩
theorem mo_46 : MOK (4, 98, 33, 0) := ⟨List.mem_of_getElem? (i := 261) (by decide +kernel), List.mem_of_getElem? (i := 262) (by decide +kernel), List.mem_of_getElem? (i := 263) (by decide +kernel), List.mem_of_getElem? (i := 43) (by decide +kernel), by decide⟩
theorem mo_47 : MOK (4, 102, 36, 0) := ⟨List.mem_of_getElem? (i := 266) (by decide +kernel), List.mem_of_getElem? (i := 267) (by decide +kernel), List.mem_of_getElem? (i := 268) (by decide +kernel), List.mem_of_getElem? (i := 43) (by decide +kernel), by decide⟩
theorem mo_48 : MOK (4, 106, 75, 1) := ⟨List.mem_of_getElem? (i := 285) (by decide +kernel), List.mem_of_getElem? (i := 279) (by decide +kernel), List.mem_of_getElem? (i := 42) (by decide +kernel), by decide⟩
theorem mo_49 : MOK (4, 109, 76, 1) := ⟨List.mem_of_getElem? (i := 290) (by decide +kernel), List.mem_of_getElem? (i := 291) (by decide +kernel), List.mem_of_getElem? (i := 42) (by decide +kernel), by decide⟩
theorem mo_50 : MOK (4, 116, 14, 0) := ⟨List.mem_of_getElem? (i := 297) (by decide +kernel), List.mem_of_getElem? (i := 298) (by decide +kernel), List.mem_of_getElem? (i := 299) (by decide +kernel), List.mem_of_getElem? (i := 45) (by decide +kernel), by decide⟩
theorem mo_51 : MOK (4, 120, 40, 0) := ⟨List.mem_of_getElem? (i := 306) (by decide +kernel), List.mem_of_getElem? (i := 307) (by decide +kernel), List.mem_of_getElem? (i := 308) (by decide +kernel), List.mem_of_getElem? (i := 43) (by decide +kernel), by decide⟩
theorem mo_52 : MOK (4, 124, 32, 0) := ⟨List.mem_of_getElem? (i := 313) (by decide +kernel), List.mem_of_getElem? (i := 314) (by decide +kernel), List.mem_of_getElem? (i := 315) (by decide +kernel), List.mem_of_getElem? (i := 43) (by decide +kernel), by decide⟩
theorem mo_53 : MOK (4, 127, 15, 0) := ⟨List.mem_of_getElem? (i := 317) (by decide +kernel), List.mem_of_getElem? (i := 318) (by decide +kernel), List.mem_of_getElem? (i := 319) (by decide +kernel), List.mem_of_getElem? (i := 45) (by decide +kernel), by decide⟩
theorem mo_54 : MOK (4, 131, 35, 0) := ⟨List.mem_of_getElem? (i := 366) (by decide +kernel), List.mem_of_getElem? (i := 271) (by decide +kernel), List.mem_of_getElem? (i := 272) (by decide +kernel), List.mem_of_getElem? (i := 43) (by decide +kernel), by decide⟩
theorem mo_55 : MOK (4, 134, 0, 1) := ⟨List.mem_of_getElem? (i := 367) (by decide +kernel), List.mem_of_getElem? (i := 368) (by decide +kernel), List.mem_of_getElem? (i := 50) (by decide +kernel), by decide⟩
theorem mo_56 : MOK (4, 139, 34, 0) := ⟨List.mem_of_getElem? (i := 373) (by decide +kernel), List.mem_of_getElem? (i := 374) (by decide +kernel), List.mem_of_getElem? (i := 375) (by decide +kernel), List.mem_of_getElem? (i := 43) (by decide +kernel), by decide⟩
theorem mo_57 : MOK (4, 145, 72, 1) := ⟨List.mem_of_getElem? (i := 381) (by decide +kernel), List.mem_of_getElem? (i := 382) (by decide +kernel), List.mem_of_getElem? (i := 42) (by decide +kernel), by decide⟩
theorem mo_58 : MOK (4, 150, 2, 0) := ⟨List.mem_of_getElem? (i := 385) (by decide +kernel), List.mem_of_getElem? (i := 386) (by decide +kernel), List.mem_of_getElem? (i := 387) (by decide +kernel), List.mem_of_getElem? (i := 44) (by decide +kernel), by decide⟩
theorem mo_59 : MOK (4, 153, 1, 0) := ⟨List.mem_of_getElem? (i := 419) (by decide +kernel), List.mem_of_getElem? (i := 408) (by decide +kernel), List.mem_of_getElem? (i := 409) (by decide +kernel), List.mem_of_getElem? (i := 44) (by decide +kernel), by decide⟩
theorem mo_60 : MOK (4, 165, 79, 1) := ⟨List.mem_of_getElem? (i := 421) (by decide +kernel), List.mem_of_getElem? (i := 422) (by decide +kernel), List.mem_of_getElem? (i := 42) (by decide +kernel), by decide⟩
theorem mo_61 : MOK (4, 169, 27, 0) := ⟨List.mem_of_getElem? (i := 434) (by decide +kernel), List.mem_of_getElem? (i := 275) (by decide +kernel), List.mem_of_getElem? (i := 276) (by decide +kernel), List.mem_of_getElem? (i := 43) (by decide +kernel), by decide⟩
theorem mo_62 : MOK (4, 174, 7, 0) := ⟨List.mem_of_getElem? (i := 436) (by decide +kernel), List.mem_of_getElem? (i := 416) (by decide +kernel), List.mem_of_getElem? (i := 417) (by decide +kernel), List.mem_of_getElem? (i := 44) (by decide +kernel), by decide⟩
theorem mo_63 : MOK (4, 178, 8, 0) := ⟨List.mem_of_getElem? (i := 441) (by decide +kernel), List.mem_of_getElem? (i := 442) (by decide +kernel), List.mem_of_getElem? (i := 443) (by decide +kernel), List.mem_of_getElem? (i := 44) (by decide +kernel), by decide⟩
theorem mo_64 : MOK (4, 184, 81, 0) := ⟨List.mem_of_getElem? (i := 450) (by decide +kernel), List.mem_of_getElem? (i := 452) (by decide +kernel), List.mem_of_getElem? (i := 11) (by decide +kernel), List.mem_of_getElem? (i := 42) (by decide +kernel), by decide⟩
theorem mo_65 : MOK (4, 187, 31, 0) := ⟨List.mem_of_getElem? (i := 459) (by decide +kernel), List.mem_of_getElem? (i := 460) (by decide +kernel), List.mem_of_getElem? (i := 461) (by decide +kernel), List.mem_of_getElem? (i := 43) (by decide +kernel), by decide⟩
theorem mo_66 : MOK (4, 191, 38, 0) := ⟨List.mem_of_getElem? (i := 468) (by decide +kernel), List.mem_of_getElem? (i := 469) (by decide +kernel), List.mem_of_getElem? (i := 470) (by decide +kernel), List.mem_of_getElem? (i := 43) (by decide +kernel), by decide⟩
theorem mo_67 : MOK (4, 194, 11, 0) := ⟨List.mem_of_getElem? (i := 482) (by decide +kernel), List.mem_of_getElem? (i := 483) (by decide +kernel), List.mem_of_getElem? (i := 484) (by decide +kernel), List.mem_of_getElem? (i := 44) (by decide +kernel), by decide⟩
theorem mo_68 : MOK (4, 198, 10, 0) := ⟨List.mem_of_getElem? (i := 491) (by decide +kernel), List.mem_of_getElem? (i := 492) (by decide +kernel), List.mem_of_getElem? (i := 493) (by decide +kernel), List.mem_of_getElem? (i := 44) (by decide +kernel), by decide⟩
theorem mo_69 : MOK (4, 202, 9, 0) := ⟨List.mem_of_getElem? (i := 499) (by decide +kernel), List.mem_of_getElem? (i := 500) (by decide +kernel), List.mem_of_getElem? (i := 501) (by decide +kernel), List.mem_of_getElem? (i := 44) (by decide +kernel), by decide⟩
theorem mo_70 : MOK (4, 206, 82, 0) := ⟨List.mem_of_getElem? (i := 507) (by decide +kernel), List.mem_of_getElem? (i := 509) (by decide +kernel), List.mem_of_getElem? (i := 13) (by decide +kernel), List.mem_of_getElem? (i := 42) (by decide +kernel), by decide⟩
theorem mo_71 : MOK (4, 209, 83, 0) := ⟨List.mem_of_getElem? (i := 511) (by decide +kernel), List.mem_of_getElem? (i := 513) (by decide +kernel), List.mem_of_getElem? (i := 14) (by decide +kernel), List.mem_of_getElem? (i := 42) (by decide +kernel), by decide⟩
theorem mo_72 : MOK (4, 212, 84, 0) := ⟨List.mem_of_getElem? (i := 519) (by decide +kernel), List.mem_of_getElem? (i := 521) (by decide +kernel), List.mem_of_getElem? (i := 15) (by decide +kernel), List.mem_of_getElem? (i := 42) (by decide +kernel), by decide⟩
theorem mo_73 : MOK (4, 220, 85, 0) := ⟨List.mem_of_getElem? (i := 535) (by decide +kernel), List.mem_of_getElem? (i := 537) (by decide +kernel), List.mem_of_getElem? (i := 16) (by decide +kernel), List.mem_of_getElem? (i := 42) (by decide +kernel), by decide⟩
theorem mo_74 : MOK (4, 229, 73, 1) := ⟨List.mem_of_getElem? (i := 539) (by decide +kernel), List.mem_of_getElem? (i := 540) (by decide +kernel), List.mem_of_getElem? (i := 42) (by decide +kernel), by decide⟩
theorem mo_75 : MOK (4, 232, 74, 1) := ⟨List.mem_of_getElem? (i := 542) (by decide +kernel), List.mem_of_getElem? (i := 543) (by decide +kernel), List.mem_of_getElem? (i := 42) (by decide +kernel), by decide⟩
theorem mo_76 : MOK (4, 235, 12, 0) := ⟨List.mem_of_getElem? (i := 558) (by decide +kernel), List.mem_of_getElem? (i := 559) (by decide +kernel), List.mem_of_getElem? (i := 560) (by decide +kernel), List.mem_of_getElem? (i := 46) (by decide +kernel), by decide⟩
theorem mo_77 : MOK (4, 242, 78, 1) := ⟨List.mem_of_getElem? (i := 570) (by decide +kernel), List.mem_of_getElem? (i := 571) (by decide +kernel), List.mem_of_getElem? (i := 42) (by decide +kernel), by decide⟩
theorem mo_78 : MOK (4, 249, 13, 0) := ⟨List.mem_of_getElem? (i := 545) (by decide +kernel), List.mem_of_getElem? (i := 546) (by decide +kernel), List.mem_of_getElem? (i := 547) (by decide +kernel), List.mem_of_getElem? (i := 46) (by decide +kernel), by decide⟩
theorem mo_79 : MOK (4, 252, 999, 3) := ⟨List.mem_of_getElem? (i := 577) (by decide +kernel), List.mem_of_getElem? (i := 312) (by decide +kernel), List.mem_of_getElem? (i := 311) (by decide +kernel), List.mem_of_getElem? (i := 48) (by decide +kernel)⟩
theorem mo_80 : MOK (4, 258, 77, 1) := ⟨List.mem_of_getElem? (i := 293) (by decide +kernel), List.mem_of_getElem? (i := 294) (by decide +kernel), List.mem_of_getElem? (i := 42) (by decide +kernel), by decide⟩
theorem mo_81 : MOK (4, 264, 999, 6) := ⟨List.mem_of_getElem? (i := 424) (by decide +kernel), List.mem_of_getElem? (i := 425) (by decide +kernel), List.mem_of_getElem? (i := 49) (by decide +kernel), List.mem_of_getElem? (i := 426) (by decide +kernel)⟩
theorem mo_82 : MOK (4, 270, 80, 1) := ⟨List.mem_of_getElem? (i := 427) (by decide +kernel), List.mem_of_getElem? (i := 428) (by decide +kernel), List.mem_of_getElem? (i := 42) (by decide +kernel), by decide⟩
theorem mo_83 : MOK (5, 81, 86, 1) := ⟨List.mem_of_getElem? (i := 686) (by decide +kernel), List.mem_of_getElem? (i := 687) (by decide +kernel), List.mem_of_getElem? (i := 47) (by decide +kernel), by decide⟩
theorem mo_84 : MOK (5, 85, 87, 0) := ⟨List.mem_of_getElem? (i := 702) (by decide +kernel), List.mem_of_getElem? (i := 704) (by decide +kernel), List.mem_of_getElem? (i := 19) (by decide +kernel), List.mem_of_getElem? (i := 47) (by decide +kernel), by decide⟩
theorem mo_85 : MOK (5, 93, 89, 0) := ⟨List.mem_of_getElem? (i := 690) (by decide +kernel), List.mem_of_getElem? (i := 692) (by decide +kernel), List.mem_of_getElem? (i := 17) (by decide +kernel), List.mem_of_getElem? (i := 47) (by decide +kernel), by decide⟩
theorem mo_86 : MOK (5, 97, 88, 0) := ⟨List.mem_of_getElem? (i := 698) (by decide +kernel), List.mem_of_getElem? (i := 700) (by decide +kernel), List.mem_of_getElem? (i := 18) (by decide +kernel), List.mem_of_getElem? (i := 47) (by decide +kernel), by decide⟩
theorem mo_87 : MOK (5, 103, 91, 0) := ⟨List.mem_of_getElem? (i := 707) (by decide +kernel), List.mem_of_getElem? (i := 709) (by decide +kernel), List.mem_of_getElem? (i := 20) (by decide +kernel), List.mem_of_getElem? (i := 47) (by decide +kernel), by decide⟩
theorem mo_88 : MOK (5, 110, 97, 0) := ⟨List.mem_of_getElem? (i := 736) (by decide +kernel), List.mem_of_getElem? (i := 738) (by decide +kernel), List.mem_of_getElem? (i := 23) (by decide +kernel), List.mem_of_getElem? (i := 47) (by decide +kernel), by decide⟩
theorem mo_89 : MOK (5, 115, 96, 0) := ⟨List.mem_of_getElem? (i := 728) (by decide +kernel), List.mem_of_getElem? (i := 730) (by decide +kernel), List.mem_of_getElem? (i := 21) (by decide +kernel), List.mem_of_getElem? (i := 47) (by decide +kernel), by decide⟩
theorem mo_90 : MOK (5, 119, 98, 0) := ⟨List.mem_of_getElem? (i := 732) (by decide +kernel), List.mem_of_getElem? (i := 734) (by decide +kernel), List.mem_of_getElem? (i := 22) (by decide +kernel), List.mem_of_getElem? (i := 47) (by decide +kernel), by decide⟩
theorem mo_91 : MOK (5, 123, 101, 1) := ⟨List.mem_of_getElem? (i := 744) (by decide +kernel), List.mem_of_getElem? (i := 745) (by decide +kernel), List.mem_of_getElem? (i := 47) (by decide +kernel), by decide⟩
theorem mo_92 : MOK (5, 147, 103, 0) := ⟨List.mem_of_getElem? (i := 763) (by decide +kernel), List.mem_of_getElem? (i := 765) (by decide +kernel), List.mem_of_getElem? (i := 25) (by decide +kernel), List.mem_of_getElem? (i := 47) (by decide +kernel), by decide⟩
theorem mo_93 : MOK (5, 154, 107, 1) := ⟨List.mem_of_getElem? (i := 767) (by decide +kernel), List.mem_of_getElem? (i := 768) (by decide +kernel), List.mem_of_getElem? (i := 47) (by decide +kernel), by decide⟩
theorem mo_94 : MOK (5, 157, 106, 0) := ⟨List.mem_of_getElem? (i := 770) (by decide +kernel), List.mem_of_getElem? (i := 772) (by decide +kernel), List.mem_of_getElem? (i := 26) (by decide +kernel), List.mem_of_getElem? (i := 47) (by decide +kernel), by decide⟩
theorem mo_95 : MOK (5, 160, 104, 0) := ⟨List.mem_of_getElem? (i := 776) (by decide +kernel), List.mem_of_getElem? (i := 778) (by decide +kernel), List.mem_of_getElem? (i := 27) (by decide +kernel), List.mem_of_getElem? (i := 47) (by decide +kernel), by decide⟩
theorem mo_96 : MOK (5, 163, 105, 0) := ⟨List.mem_of_getElem? (i := 784) (by decide +kernel), List.mem_of_getElem? (i := 786) (by decide +kernel), List.mem_of_getElem? (i := 29) (by decide +kernel), List.mem_of_getElem? (i := 47) (by decide +kernel), by decide⟩
theorem mo_97 : MOK (5, 167, 108, 0) := ⟨List.mem_of_getElem? (i := 759) (by decide +kernel), List.mem_of_getElem? (i := 761) (by decide +kernel), List.mem_of_getElem? (i := 24) (by decide +kernel), List.mem_of_getElem? (i := 47) (by decide +kernel), by decide⟩
theorem mo_98 : MOK (5, 170, 109, 0) := ⟨List.mem_of_getElem? (i := 780) (by decide +kernel), List.mem_of_getElem? (i := 782) (by decide +kernel), List.mem_of_getElem? (i := 28) (by decide +kernel), List.mem_of_getElem? (i := 47) (by decide +kernel), by decide⟩
theorem mo_99 : MOK (5, 180, 112, 0) := ⟨List.mem_of_getElem? (i := 797) (by decide +kernel), List.mem_of_getElem? (i := 799) (by decide +kernel), List.mem_of_getElem? (i := 31) (by decide +kernel), List.mem_of_getElem? (i := 47) (by decide +kernel), by decide⟩
theorem mo_100 : MOK (5, 190, 111, 0) := ⟨List.mem_of_getElem? (i := 793) (by decide +kernel), List.mem_of_getElem? (i := 795) (by decide +kernel), List.mem_of_getElem? (i := 30) (by decide +kernel), List.mem_of_getElem? (i := 47) (by decide +kernel), by decide⟩
theorem mo_101 : MOK (5, 193, 114, 0) := ⟨List.mem_of_getElem? (i := 801) (by decide +kernel), List.mem_of_getElem? (i := 803) (by decide +kernel), List.mem_of_getElem? (i := 32) (by decide +kernel), List.mem_of_getElem? (i := 47) (by decide +kernel), by decide⟩
theorem mo_102 : MOK (5, 196, 113, 1) := ⟨List.mem_of_getElem? (i := 805) (by decide +kernel), List.mem_of_getElem? (i := 806) (by decide +kernel), List.mem_of_getElem? (i := 47) (by decide +kernel), by decide⟩
theorem mo_103 : MOK (5, 208, 119, 0) := ⟨List.mem_of_getElem? (i := 823) (by decide +kernel), List.mem_of_getElem? (i := 825) (by decide +kernel), List.mem_of_getElem? (i := 33) (by decide +kernel), List.mem_of_getElem? (i := 47) (by decide +kernel), by decide⟩
theorem mo_104 : MOK (5, 211, 118, 0) := ⟨List.mem_of_getElem? (i := 827) (by decide +kernel), List.mem_of_getElem? (i := 829) (by decide +kernel), List.mem_of_getElem? (i := 34) (by decide +kernel), List.mem_of_getElem? (i := 47) (by decide +kernel), by decide⟩
theorem mo_105 : MOK (5, 215, 122, 0) := ⟨List.mem_of_getElem? (i := 840) (by decide +kernel), List.mem_of_getElem? (i := 842) (by decide +kernel), List.mem_of_getElem? (i := 35) (by decide +kernel), List.mem_of_getElem? (i := 47) (by decide +kernel), by decide⟩
theorem mo_106 : MOK (5, 219, 125, 0) := ⟨List.mem_of_getElem? (i := 852) (by decide +kernel), List.mem_of_getElem? (i := 854) (by decide +kernel), List.mem_of_getElem? (i := 36) (by decide +kernel), List.mem_of_getElem? (i := 47) (by decide +kernel), by decide⟩
theorem mo_107 : MOK (5, 223, 130, 0) := ⟨List.mem_of_getElem? (i := 872) (by decide +kernel), List.mem_of_getElem? (i := 874) (by decide +kernel), List.mem_of_getElem? (i := 37) (by decide +kernel), List.mem_of_getElem? (i := 47) (by decide +kernel), by decide⟩
theorem mo_108 : MOK (5, 230, 131, 0) := ⟨List.mem_of_getElem? (i := 880) (by decide +kernel), List.mem_of_getElem? (i := 882) (by decide +kernel), List.mem_of_getElem? (i := 38) (by decide +kernel), List.mem_of_getElem? (i := 47) (by decide +kernel), by decide⟩
theorem mo_109 : MOK (5, 234, 134, 1) := ⟨List.mem_of_getElem? (i := 888) (by decide +kernel), List.mem_of_getElem? (i := 889) (by decide +kernel), List.mem_of_getElem? (i := 47) (by decide +kernel), by decide⟩
theorem mo_110 : MOK (5, 237, 135, 1) := ⟨List.mem_of_getElem? (i := 891) (by decide +kernel), List.mem_of_getElem? (i := 892) (by decide +kernel), List.mem_of_getElem? (i := 47) (by decide +kernel), by decide⟩
theorem mo_111 : MOK (5, 240, 136, 0) := ⟨List.mem_of_getElem? (i := 894) (by decide +kernel), List.mem_of_getElem? (i := 896) (by decide +kernel), List.mem_of_getElem? (i := 39) (by decide +kernel), List.mem_of_getElem? (i := 47) (by decide +kernel), by decide⟩
theorem mo_112 : MOK (5, 244, 138, 0) := ⟨List.mem_of_getElem? (i := 902) (by decide +kernel), List.mem_of_getElem? (i := 904) (by decide +kernel), List.mem_of_getElem? (i := 40) (by decide +kernel), List.mem_of_getElem? (i := 47) (by decide +kernel), by decide⟩
theorem mo_113 : MOK (8, 13, 41, 0) := ⟨List.mem_of_getElem? (i := 207) (by decide +kernel), List.mem_of_getElem? (i := 208) (by decide +kernel), List.mem_of_getElem? (i := 209) (by decide +kernel), List.mem_of_getElem? (i := 42) (by decide +kernel), by decide⟩
theorem mo_114 : MOK (8, 17, 90, 0) := ⟨List.mem_of_getElem? (i := 681) (by decide +kernel), List.mem_of_getElem? (i := 682) (by decide +kernel), List.mem_of_getElem? (i := 683) (by decide +kernel), List.mem_of_getElem? (i := 47) (by decide +kernel), by decide⟩
theorem mo_115 : MOK (8, 18, 42, 0) := ⟨List.mem_of_getElem? (i := 218) (by decide +kernel), List.mem_of_getElem? (i := 219) (by decide +kernel), List.mem_of_getElem? (i := 220) (by decide +kernel), List.mem_of_getElem? (i := 42) (by decide +kernel), by decide⟩
theorem mo_116 : MOK (8, 22, 92, 0) := ⟨List.mem_of_getElem? (i := 694) (by decide +kernel), List.mem_of_getElem? (i := 695) (by decide +kernel), List.mem_of_getElem? (i := 696) (by decide +kernel), List.mem_of_getElem? (i := 47) (by decide +kernel), by decide⟩
theorem mo_117 : MOK (8, 23, 43, 0) := ⟨List.mem_of_getElem? (i := 241) (by decide +kernel), List.mem_of_getElem? (i := 242) (by decide +kernel), List.mem_of_getElem? (i := 243) (by decide +kernel), List.mem_of_getElem? (i := 42) (by decide +kernel), by decide⟩
theorem mo_118 : MOK (8, 26, 93, 0) := ⟨List.mem_of_getElem? (i := 711) (by decide +kernel), List.mem_of_getElem? (i := 712) (by decide +kernel), List.mem_of_getElem? (i := 713) (by decide +kernel), List.mem_of_getElem? (i := 47) (by decide +kernel), by decide⟩
theorem mo_119 : MOK (8, 27, 44, 0) := ⟨List.mem_of_getElem? (i := 246) (by decide +kernel), List.mem_of_getElem? (i := 247) (by decide +kernel), List.mem_of_getElem? (i := 248) (by decide +kernel), List.mem_of_getElem? (i := 42) (by decide +kernel), by decide⟩
theorem mo_120 : MOK (8, 30, 94, 0) := ⟨List.mem_of_getElem? (i := 715) (by decide +kernel), List.mem_of_getElem? (i := 716) (by decide +kernel), List.mem_of_getElem? (i := 717) (by decide +kernel), List.mem_of_getElem? (i := 47) (by decide +kernel), by decide⟩
theorem mo_121 : MOK (8, 31, 45, 0) := ⟨List.mem_of_getElem? (i := 253) (by decide +kernel), List.mem_of_getElem? (i := 254) (by decide +kernel), List.mem_of_getElem? (i := 255) (by decide +kernel), List.mem_of_getElem? (i := 42) (by decide +kernel), by decide⟩
theorem mo_122 : MOK (8, 35, 95, 0) := ⟨List.mem_of_getElem? (i := 719) (by decide +kernel), List.mem_of_getElem? (i := 720) (by decide +kernel), List.mem_of_getElem? (i := 721) (by decide +kernel), List.mem_of_getElem? (i := 47) (by decide +kernel), by decide⟩
theorem mo_123 : MOK (8, 36, 46, 0) := ⟨List.mem_of_getElem? (i := 257) (by decide +kernel), List.mem_of_getElem? (i := 258) (by decide +kernel), List.mem_of_getElem? (i := 259) (by decide +kernel), List.mem_of_getElem? (i := 42) (by decide +kernel), by decide⟩
theorem mo_124 : MOK (8, 39, 99, 0) := ⟨List.mem_of_getElem? (i := 723) (by decide +kernel), List.mem_of_getElem? (i := 724) (by decide +kernel), List.mem_of_getElem? (i := 725) (by decide +kernel), List.mem_of_getElem? (i := 47) (by decide +kernel), by decide⟩
theorem mo_125 : MOK (8, 42, 47, 0) := ⟨List.mem_of_getElem? (i := 286) (by decide +kernel), List.mem_of_getElem? (i := 287) (by decide +kernel), List.mem_of_getElem? (i := 288) (by decide +kernel), List.mem_of_getElem? (i := 42) (by decide +kernel), by decide⟩
theorem mo_126 : MOK (8, 46, 102, 0) := ⟨List.mem_of_getElem? (i := 747) (by decide +kernel), List.mem_of_getElem? (i := 748) (by decide +kernel), List.mem_of_getElem? (i := 749) (by decide +kernel), List.mem_of_getElem? (i := 47) (by decide +kernel), by decide⟩
theorem mo_127 : MOK (8, 47, 48, 0) := ⟨List.mem_of_getElem? (i := 302) (by decide +kernel), List.mem_of_getElem? (i := 303) (by decide +kernel), List.mem_of_getElem? (i := 304) (by decide +kernel), List.mem_of_getElem? (i := 42) (by decide +kernel), by decide⟩
theorem mo_128 : MOK (8, 51, 110, 0) := ⟨List.mem_of_getElem? (i := 755) (by decide +kernel), List.mem_of_getElem? (i := 756) (by decide +kernel), List.mem_of_getElem? (i := 757) (by decide +kernel), List.mem_of_getElem? (i := 47) (by decide +kernel), by decide⟩
theorem mo_129 : MOK (8, 52, 49, 0) := ⟨List.mem_of_getElem? (i := 362) (by decide +kernel), List.mem_of_getElem? (i := 363) (by decide +kernel), List.mem_of_getElem? (i := 364) (by decide +kernel), List.mem_of_getElem? (i := 42) (by decide +kernel), by decide⟩
theorem mo_130 : MOK (8, 55, 100, 0) := ⟨List.mem_of_getElem? (i := 740) (by decide +kernel), List.mem_of_getElem? (i := 741) (by decide +kernel), List.mem_of_getElem? (i := 742) (by decide +kernel), List.mem_of_getElem? (i := 47) (by decide +kernel), by decide⟩
theorem mo_131 : MOK (8, 56, 50, 0) := ⟨List.mem_of_getElem? (i := 377) (by decide +kernel), List.mem_of_getElem? (i := 378) (by decide +kernel), List.mem_of_getElem? (i := 379) (by decide +kernel), List.mem_of_getElem? (i := 42) (by decide +kernel), by decide⟩
theorem mo_132 : MOK (8, 60, 115, 0) := ⟨List.mem_of_getElem? (i := 788) (by decide +kernel), List.mem_of_getElem? (i := 789) (by decide +kernel), List.mem_of_getElem? (i := 790) (by decide +kernel), List.mem_of_getElem? (i := 47) (by decide +kernel), by decide⟩
theorem mo_133 : MOK (8, 61, 51, 0) := ⟨List.mem_of_getElem? (i := 430) (by decide +kernel), List.mem_of_getElem? (i := 431) (by decide +kernel), List.mem_of_getElem? (i := 432) (by decide +kernel), List.mem_of_getElem? (i := 42) (by decide +kernel), by decide⟩
theorem mo_134 : MOK (8, 65, 116, 0) := ⟨List.mem_of_getElem? (i := 809) (by decide +kernel), List.mem_of_getElem? (i := 810) (by decide +kernel), List.mem_of_getElem? (i := 811) (by decide +kernel), List.mem_of_getElem? (i := 47) (by decide +kernel), by decide⟩
theorem mo_135 : MOK (8, 66, 52, 0) := ⟨List.mem_of_getElem? (i := 437) (by decide +kernel), List.mem_of_getElem? (i := 438) (by decide +kernel), List.mem_of_getElem? (i := 439) (by decide +kernel), List.mem_of_getElem? (i := 42) (by decide +kernel), by decide⟩
theorem mo_136 : MOK (8, 69, 117, 0) := ⟨List.mem_of_getElem? (i := 814) (by decide +kernel), List.mem_of_getElem? (i := 815) (by decide +kernel), List.mem_of_getElem? (i := 816) (by decide +kernel), List.mem_of_getElem? (i := 47) (by decide +kernel), by decide⟩
theorem mo_137 : MOK (8, 70, 53, 0) := ⟨List.mem_of_getElem? (i := 445) (by decide +kernel), List.mem_of_getElem? (i := 446) (by decide +kernel), List.mem_of_getElem? (i := 447) (by decide +kernel), List.mem_of_getElem? (i := 42) (by decide +kernel), by decide⟩
theorem mo_138 : MOK (8, 74, 120, 0) := ⟨List.mem_of_getElem? (i := 818) (by decide +kernel), List.mem_of_getElem? (i := 819) (by decide +kernel), List.mem_of_getElem? (i := 820) (by decide +kernel), List.mem_of_getElem? (i := 47) (by decide +kernel), by decide⟩
theorem mo_139 : MOK (8, 75, 54, 0) := ⟨List.mem_of_getElem? (i := 455) (by decide +kernel), List.mem_of_getElem? (i := 456) (by decide +kernel), List.mem_of_getElem? (i := 457) (by decide +kernel), List.mem_of_getElem? (i := 42) (by decide +kernel), by decide⟩
theorem mo_140 : MOK (8, 78, 121, 0) := ⟨List.mem_of_getElem? (i := 832) (by decide +kernel), List.mem_of_getElem? (i := 833) (by decide +kernel), List.mem_of_getElem? (i := 834) (by decide +kernel), List.mem_of_getElem? (i := 47) (by decide +kernel), by decide⟩
theorem mo_141 : MOK (8, 79, 55, 0) := ⟨List.mem_of_getElem? (i := 464) (by decide +kernel), List.mem_of_getElem? (i := 465) (by decide +kernel), List.mem_of_getElem? (i := 466) (by decide +kernel), List.mem_of_getElem? (i := 42) (by decide +kernel), by decide⟩
theorem mo_142 : MOK (8, 82, 123, 0) := ⟨List.mem_of_getElem? (i := 836) (by decide +kernel), List.mem_of_getElem? (i := 837) (by decide +kernel), List.mem_of_getElem? (i := 838) (by decide +kernel), List.mem_of_getElem? (i := 47) (by decide +kernel), by decide⟩
theorem mo_143 : MOK (8, 83, 56, 0) := ⟨List.mem_of_getElem? (i := 478) (by decide +kernel), List.mem_of_getElem? (i := 479) (by decide +kernel), List.mem_of_getElem? (i := 480) (by decide +kernel), List.mem_of_getElem? (i := 42) (by decide +kernel), by decide⟩
theorem mo_144 : MOK (8, 86, 124, 0) := ⟨List.mem_of_getElem? (i := 844) (by decide +kernel), List.mem_of_getElem? (i := 845) (by decide +kernel), List.mem_of_getElem? (i := 846) (by decide +kernel), List.mem_of_getElem? (i := 47) (by decide +kernel), by decide⟩
theorem mo_145 : MOK (8, 87, 57, 0) := ⟨List.mem_of_getElem? (i := 487) (by decide +kernel), List.mem_of_getElem? (i := 488) (by decide +kernel), List.mem_of_getElem? (i := 489) (by decide +kernel), List.mem_of_getElem? (i := 42) (by decide +kernel), by decide⟩
theorem mo_146 : MOK (8, 90, 126, 0) := ⟨List.mem_of_getElem? (i := 848) (by decide +kernel), List.mem_of_getElem? (i := 849) (by decide +kernel), List.mem_of_getElem? (i := 850) (by decide +kernel), List.mem_of_getElem? (i := 47) (by decide +kernel), by decide⟩
theorem mo_147 : MOK (8, 91, 58, 0) := ⟨List.mem_of_getElem? (i := 495) (by decide +kernel), List.mem_of_getElem? (i := 496) (by decide +kernel), List.mem_of_getElem? (i := 497) (by decide +kernel), List.mem_of_getElem? (i := 42) (by decide +kernel), by decide⟩
theorem mo_148 : MOK (8, 94, 127, 0) := ⟨List.mem_of_getElem? (i := 856) (by decide +kernel), List.mem_of_getElem? (i := 857) (by decide +kernel), List.mem_of_getElem? (i := 858) (by decide +kernel), List.mem_of_getElem? (i := 47) (by decide +kernel), by decide⟩
theorem mo_149 : MOK (8, 95, 59, 0) := ⟨List.mem_of_getElem? (i := 503) (by decide +kernel), List.mem_of_getElem? (i := 504) (by decide +kernel), List.mem_of_getElem? (i := 505) (by decide +kernel), List.mem_of_getElem? (i := 42) (by decide +kernel), by decide⟩
theorem mo_150 : MOK (8, 98, 128, 0) := ⟨List.mem_of_getElem? (i := 860) (by decide +kernel), List.mem_of_getElem? (i := 861) (by decide +kernel), List.mem_of_getElem? (i := 862) (by decide +kernel), List.mem_of_getElem? (i := 47) (by decide +kernel), by decide⟩
theorem mo_151 : MOK (8, 99, 60, 0) := ⟨List.mem_of_getElem? (i := 515) (by decide +kernel), List.mem_of_getElem? (i := 516) (by decide +kernel), List.mem_of_getElem? (i := 517) (by decide +kernel), List.mem_of_getElem? (i := 42) (by decide +kernel), by decide⟩
theorem mo_152 : MOK (8, 102, 129, 0) := ⟨List.mem_of_getElem? (i := 864) (by decide +kernel), List.mem_of_getElem? (i := 865) (by decide +kernel), List.mem_of_getElem? (i := 866) (by decide +kernel), List.mem_of_getElem? (i := 47) (by decide +kernel), by decide⟩
theorem mo_153 : MOK (8, 103, 61, 0) := ⟨List.mem_of_getElem? (i := 523) (by decide +kernel), List.mem_of_getElem? (i := 524) (by decide +kernel), List.mem_of_getElem? (i := 525) (by decide +kernel), List.mem_of_getElem? (i := 42) (by decide +kernel), by decide⟩
theorem mo_154 : MOK (8, 106, 132, 0) := ⟨List.mem_of_getElem? (i := 868) (by decide +kernel), List.mem_of_getElem? (i := 869) (by decide +kernel), List.mem_of_getElem? (i := 870) (by decide +kernel), List.mem_of_getElem? (i := 47) (by decide +kernel), by decide⟩
theorem mo_155 : MOK (8, 107, 62, 0) := ⟨List.mem_of_getElem? (i := 527) (by decide +kernel), List.mem_of_getElem? (i := 528) (by decide +kernel), List.mem_of_getElem? (i := 529) (by decide +kernel), List.mem_of_getElem? (i := 42) (by decide +kernel), by decide⟩
theorem mo_156 : MOK (8, 110, 133, 0) := ⟨List.mem_of_getElem? (i := 876) (by decide +kernel), List.mem_of_getElem? (i := 877) (by decide +kernel), List.mem_of_getElem? (i := 878) (by decide +kernel), List.mem_of_getElem? (i := 47) (by decide +kernel), by decide⟩
theorem mo_157 : MOK (8, 111, 63, 0) := ⟨List.mem_of_getElem? (i := 531) (by decide +kernel), List.mem_of_getElem? (i := 532) (by decide +kernel), List.mem_of_getElem? (i := 533) (by decide +kernel), List.mem_of_getElem? (i := 42) (by decide +kernel), by decide⟩
theorem mo_158 : MOK (8, 114, 137, 0) := ⟨List.mem_of_getElem? (i := 884) (by decide +kernel), List.mem_of_getElem? (i := 885) (by decide +kernel), List.mem_of_getElem? (i := 886) (by decide +kernel), List.mem_of_getElem? (i := 47) (by decide +kernel), by decide⟩
theorem mo_159 : MOK (8, 115, 64, 0) := ⟨List.mem_of_getElem? (i := 550) (by decide +kernel), List.mem_of_getElem? (i := 551) (by decide +kernel), List.mem_of_getElem? (i := 552) (by decide +kernel), List.mem_of_getElem? (i := 42) (by decide +kernel), by decide⟩
theorem mo_160 : MOK (8, 118, 139, 0) := ⟨List.mem_of_getElem? (i := 898) (by decide +kernel), List.mem_of_getElem? (i := 899) (by decide +kernel), List.mem_of_getElem? (i := 900) (by decide +kernel), List.mem_of_getElem? (i := 47) (by decide +kernel), by decide⟩
theorem mo_161 : MOK (8, 119, 65, 0) := ⟨List.mem_of_getElem? (i := 554) (by decide +kernel), List.mem_of_getElem? (i := 555) (by decide +kernel), List.mem_of_getElem? (i := 556) (by decide +kernel), List.mem_of_getElem? (i := 42) (by decide +kernel), by decide⟩
theorem mo_162 : MOK (8, 122, 140, 0) := ⟨List.mem_of_getElem? (i := 906) (by decide +kernel), List.mem_of_getElem? (i := 907) (by decide +kernel), List.mem_of_getElem? (i := 908) (by decide +kernel), List.mem_of_getElem? (i := 47) (by decide +kernel), by decide⟩
theorem mo_163 : MOK (8, 123, 66, 0) := ⟨List.mem_of_getElem? (i := 562) (by decide +kernel), List.mem_of_getElem? (i := 563) (by decide +kernel), List.mem_of_getElem? (i := 564) (by decide +kernel), List.mem_of_getElem? (i := 42) (by decide +kernel), by decide⟩
theorem mo_164 : MOK (8, 126, 141, 0) := ⟨List.mem_of_getElem? (i := 910) (by decide +kernel), List.mem_of_getElem? (i := 911) (by decide +kernel), List.mem_of_getElem? (i := 912) (by decide +kernel), List.mem_of_getElem? (i := 47) (by decide +kernel), by decide⟩
theorem mo_165 : MOK (8, 127, 67, 0) := ⟨List.mem_of_getElem? (i := 566) (by decide +kernel), List.mem_of_getElem? (i := 567) (by decide +kernel), List.mem_of_getElem? (i := 568) (by decide +kernel), List.mem_of_getElem? (i := 42) (by decide +kernel), by decide⟩
theorem mo_166 : MOK (8, 131, 142, 0) := ⟨List.mem_of_getElem? (i := 914) (by decide +kernel), List.mem_of_getElem? (i := 915) (by decide +kernel), List.mem_of_getElem? (i := 916) (by decide +kernel), List.mem_of_getElem? (i := 47) (by decide +kernel), by decide⟩
theorem mo_167 : MOK (8, 132, 68, 0) := ⟨List.mem_of_getElem? (i := 573) (by decide +kernel), List.mem_of_getElem? (i := 574) (by decide +kernel), List.mem_of_getElem? (i := 575) (by decide +kernel), List.mem_of_getElem? (i := 42) (by decide +kernel), by decide⟩
theorem mo_168 : MOK (8, 136, 143, 0) := ⟨List.mem_of_getElem? (i := 918) (by decide +kernel), List.mem_of_getElem? (i := 919) (by decide +kernel), List.mem_of_getElem? (i := 920) (by decide +kernel), List.mem_of_getElem? (i := 47) (by decide +kernel), by decide⟩
def metT_0 : List (Nat × Nat × Nat × Nat) := [(0, 30, 75, 2), (0, 40, 36, 0), (0, 44, 35, 0), (0, 50, 3, 0), (0, 54, 4, 0), (0, 60, 999, 3), (0, 66, 1, 0), (0, 70, 6, 0), (0, 74, 29, 0), (0, 78, 33, 0), (0, 82, 5, 0), (0, 86, 7, 0), (0, 96, 999, 6), (2, 19, 77, 2), (2, 26, 16, 0), (2, 30, 17, 0), (2, 38, 20, 0), (2, 42, 21, 1), (2, 46, 18, 0), (2, 49, 24, 0), (2, 52, 28, 0), (2, 56, 23, 0), (2, 59, 22, 1), (2, 62, 19, 1)]
theorem metOK_0 : ∀ e ∈ metT_0, MOK e := List.forall_mem_cons.mpr ⟨mo_0, List.forall_mem_cons.mpr ⟨mo_1, List.forall_mem_cons.mpr ⟨mo_2, List.forall_mem_cons.mpr ⟨mo_3, List.forall_mem_cons.mpr ⟨mo_4, List.forall_mem_cons.mpr ⟨mo_5, List.forall_mem_cons.mpr ⟨mo_6, List.forall_mem_cons.mpr ⟨mo_7, List.forall_mem_cons.mpr ⟨mo_8, List.forall_mem_cons.mpr ⟨mo_9, List.forall_mem_cons.mpr ⟨mo_10, List.forall_mem_cons.mpr ⟨mo_11, List.forall_mem_cons.mpr ⟨mo_12, List.forall_mem_cons.mpr ⟨mo_13, List.forall_mem_cons.mpr ⟨mo_14, List.forall_mem_cons.mpr ⟨mo_15, List.forall_mem_cons.mpr ⟨mo_16, List.forall_mem_cons.mpr ⟨mo_17, List.forall_mem_cons.mpr ⟨mo_18, List.forall_mem_cons.mpr ⟨mo_19, List.forall_mem_cons.mpr ⟨mo_20, List.forall_mem_cons.mpr ⟨mo_21, List.forall_mem_cons.mpr ⟨mo_22, List.forall_mem_cons.mpr ⟨mo_23, fun _ h => absurd h List.not_mem_nil⟩⟩⟩⟩⟩⟩⟩⟩⟩⟩⟩⟩⟩⟩⟩⟩⟩⟩⟩⟩⟩⟩⟩⟩
def metT_1 : List (Nat × Nat × Nat × Nat) := [(2, 65, 30, 0), (2, 69, 999, 4), (2, 74, 999, 5), (3, 37, 25, 0), (3, 41, 30, 0), (3, 45, 29, 0), (3, 49, 27, 0), (3, 52, 35, 0), (3, 56, 75, 2), (3, 60, 37, 0), (3, 64, 999, 3), (3, 70, 39, 0), (3, 73, 33, 0), (3, 76, 999, 4), (4, 50, 69, 1), (4, 58, 28, 0), (4, 62, 26, 0), (4, 66, 70, 1), (4, 69, 29, 0), (4, 72, 30, 0), (4, 76, 25, 0), (4, 86, 71, 1), (4, 98, 33, 0), (4, 102, 36, 0)]
theorem metOK_1 : ∀ e ∈ metT_1, MOK e := List.forall_mem_cons.mpr ⟨mo_24, List.forall_mem_cons.mpr ⟨mo_25, List.forall_mem_cons.mpr ⟨mo_26, List.forall_mem_cons.mpr ⟨mo_27, List.forall_mem_cons.mpr ⟨mo_28, List.forall_mem_cons.mpr ⟨mo_29, List.forall_mem_cons.mpr ⟨mo_30, List.forall_mem_cons.mpr ⟨mo_31, List.forall_mem_cons.mpr ⟨mo_32, List.forall_mem_cons.mpr ⟨mo_33, List.forall_mem_cons.mpr ⟨mo_34, List.forall_mem_cons.mpr ⟨mo_35, List.forall_mem_cons.mpr ⟨mo_36, List.forall_mem_cons.mpr ⟨mo_37, List.forall_mem_cons.mpr ⟨mo_38, List.forall_mem_cons.mpr ⟨mo_39, List.forall_mem_cons.mpr ⟨mo_40, List.forall_mem_cons.mpr ⟨mo_41, List.forall_mem_cons.mpr ⟨mo_42, List.forall_mem_cons.mpr ⟨mo_43, List.forall_mem_cons.mpr ⟨mo_44, List.forall_mem_cons.mpr ⟨mo_45, List.forall_mem_cons.mpr ⟨mo_46, List.forall_mem_cons.mpr ⟨mo_47, fun _ h => absurd h List.not_mem_nil⟩⟩⟩⟩⟩⟩⟩⟩⟩⟩⟩⟩⟩⟩⟩⟩⟩⟩⟩⟩⟩⟩⟩⟩
def metT_2 : List (Nat × Nat × Nat × Nat) := [(4, 106, 75, 1), (4, 109, 76, 1), (4, 116, 14, 0), (4, 120, 40, 0), (4, 124, 32, 0), (4, 127, 15, 0), (4, 131, 35, 0), (4, 134, 0, 1), (4, 139, 34, 0), (4, 145, 72, 1), (4, 150, 2, 0), (4, 153, 1, 0), (4, 165, 79, 1), (4, 169, 27, 0), (4, 174, 7, 0), (4, 178, 8, 0), (4, 184, 81, 0), (4, 187, 31, 0), (4, 191, 38, 0), (4, 194, 11, 0), (4, 198, 10, 0), (4, 202, 9, 0), (4, 206, 82, 0), (4, 209, 83, 0)]
theorem metOK_2 : ∀ e ∈ metT_2, MOK e := List.forall_mem_cons.mpr ⟨mo_48, List.forall_mem_cons.mpr ⟨mo_49, List.forall_mem_cons.mpr ⟨mo_50, List.forall_mem_cons.mpr ⟨mo_51, List.forall_mem_cons.mpr ⟨mo_52, List.forall_mem_cons.mpr ⟨mo_53, List.forall_mem_cons.mpr ⟨mo_54, List.forall_mem_cons.mpr ⟨mo_55, List.forall_mem_cons.mpr ⟨mo_56, List.forall_mem_cons.mpr ⟨mo_57, List.forall_mem_cons.mpr ⟨mo_58, List.forall_mem_cons.mpr ⟨mo_59, List.forall_mem_cons.mpr ⟨mo_60, List.forall_mem_cons.mpr ⟨mo_61, List.forall_mem_cons.mpr ⟨mo_62, List.forall_mem_cons.mpr ⟨mo_63, List.forall_mem_cons.mpr ⟨mo_64, List.forall_mem_cons.mpr ⟨mo_65, List.forall_mem_cons.mpr ⟨mo_66, List.forall_mem_cons.mpr ⟨mo_67, List.forall_mem_cons.mpr ⟨mo_68, List.forall_mem_cons.mpr ⟨mo_69, List.forall_mem_cons.mpr ⟨mo_70, List.forall_mem_cons.mpr ⟨mo_71, fun _ h => absurd h List.not_mem_nil⟩⟩⟩⟩⟩⟩⟩⟩⟩⟩⟩⟩⟩⟩⟩⟩⟩⟩⟩⟩⟩⟩⟩⟩
def metT_3 : List (Nat × Nat × Nat × Nat) := [(4, 212, 84, 0), (4, 220, 85, 0), (4, 229, 73, 1), (4, 232, 74, 1), (4, 235, 12, 0), (4, 242, 78, 1), (4, 249, 13, 0), (4, 252, 999, 3), (4, 258, 77, 1), (4, 264, 999, 6), (4, 270, 80, 1), (5, 81, 86, 1), (5, 85, 87, 0), (5, 93, 89, 0), (5, 97, 88, 0), (5, 103, 91, 0), (5, 110, 97, 0), (5, 115, 96, 0), (5, 119, 98, 0), (5, 123, 101, 1), (5, 147, 103, 0), (5, 154, 107, 1), (5, 157, 106, 0), (5, 160, 104, 0)]
theorem metOK_3 : ∀ e ∈ metT_3, MOK e := List.forall_mem_cons.mpr ⟨mo_72, List.forall_mem_cons.mpr ⟨mo_73, List.forall_mem_cons.mpr ⟨mo_74, List.forall_mem_cons.mpr ⟨mo_75, List.forall_mem_cons.mpr ⟨mo_76, List.forall_mem_cons.mpr ⟨mo_77, List.forall_mem_cons.mpr ⟨mo_78, List.forall_mem_cons.mpr ⟨mo_79, List.forall_mem_cons.mpr ⟨mo_80, List.forall_mem_cons.mpr ⟨mo_81, List.forall_mem_cons.mpr ⟨mo_82, List.forall_mem_cons.mpr ⟨mo_83, List.forall_mem_cons.mpr ⟨mo_84, List.forall_mem_cons.mpr ⟨mo_85, List.forall_mem_cons.mpr ⟨mo_86, List.forall_mem_cons.mpr ⟨mo_87, List.forall_mem_cons.mpr ⟨mo_88, List.forall_mem_cons.mpr ⟨mo_89, List.forall_mem_cons.mpr ⟨mo_90, List.forall_mem_cons.mpr ⟨mo_91, List.forall_mem_cons.mpr ⟨mo_92, List.forall_mem_cons.mpr ⟨mo_93, List.forall_mem_cons.mpr ⟨mo_94, List.forall_mem_cons.mpr ⟨mo_95, fun _ h => absurd h List.not_mem_nil⟩⟩⟩⟩⟩⟩⟩⟩⟩⟩⟩⟩⟩⟩⟩⟩⟩⟩⟩⟩⟩⟩⟩⟩
def metT_4 : List (Nat × Nat × Nat × Nat) := [(5, 163, 105, 0), (5, 167, 108, 0), (5, 170, 109, 0), (5, 180, 112, 0), (5, 190, 111, 0), (5, 193, 114, 0), (5, 196, 113, 1), (5, 208, 119, 0), (5, 211, 118, 0), (5, 215, 122, 0), (5, 219, 125, 0), (5, 223, 130, 0), (5, 230, 131, 0), (5, 234, 134, 1), (5, 237, 135, 1), (5, 240, 136, 0), (5, 244, 138, 0), (8, 13, 41, 0), (8, 17, 90, 0), (8, 18, 42, 0), (8, 22, 92, 0), (8, 23, 43, 0), (8, 26, 93, 0), (8, 27, 44, 0)]
theorem metOK_4 : ∀ e ∈ metT_4, MOK e := List.forall_mem_cons.mpr ⟨mo_96, List.forall_mem_cons.mpr ⟨mo_97, List.forall_mem_cons.mpr ⟨mo_98, List.forall_mem_cons.mpr ⟨mo_99, List.forall_mem_cons.mpr ⟨mo_100, List.forall_mem_cons.mpr ⟨mo_101, List.forall_mem_cons.mpr ⟨mo_102, List.forall_mem_cons.mpr ⟨mo_103, List.forall_mem_cons.mpr ⟨mo_104, List.forall_mem_cons.mpr ⟨mo_105, List.forall_mem_cons.mpr ⟨mo_106, List.forall_mem_cons.mpr ⟨mo_107, List.forall_mem_cons.mpr ⟨mo_108, List.forall_mem_cons.mpr ⟨mo_109, List.forall_mem_cons.mpr ⟨mo_110, List.forall_mem_cons.mpr ⟨mo_111, List.forall_mem_cons.mpr ⟨mo_112, List.forall_mem_cons.mpr ⟨mo_113, List.forall_mem_cons.mpr ⟨mo_114, List.forall_mem_cons.mpr ⟨mo_115, List.forall_mem_cons.mpr ⟨mo_116, List.forall_mem_cons.mpr ⟨mo_117, List.forall_mem_cons.mpr ⟨mo_118, List.forall_mem_cons.mpr ⟨mo_119, fun _ h => absurd h List.not_mem_nil⟩⟩⟩⟩⟩⟩⟩⟩⟩⟩⟩⟩⟩⟩⟩⟩⟩⟩⟩⟩⟩⟩⟩⟩
def metT_5 : List (Nat × Nat × Nat × Nat) := [(8, 30, 94, 0), (8, 31, 45, 0), (8, 35, 95, 0), (8, 36, 46, 0), (8, 39, 99, 0), (8, 42, 47, 0), (8, 46, 102, 0), (8, 47, 48, 0), (8, 51, 110, 0), (8, 52, 49, 0), (8, 55, 100, 0), (8, 56, 50, 0), (8, 60, 115, 0), (8, 61, 51, 0), (8, 65, 116, 0), (8, 66, 52, 0), (8, 69, 117, 0), (8, 70, 53, 0), (8, 74, 120, 0), (8, 75, 54, 0), (8, 78, 121, 0), (8, 79, 55, 0), (8, 82, 123, 0), (8, 83, 56, 0)]
theorem metOK_5 : ∀ e ∈ metT_5, MOK e := List.forall_mem_cons.mpr ⟨mo_120, List.forall_mem_cons.mpr ⟨mo_121, List.forall_mem_cons.mpr ⟨mo_122, List.forall_mem_cons.mpr ⟨mo_123, List.forall_mem_cons.mpr ⟨mo_124, List.forall_mem_cons.mpr ⟨mo_125, List.forall_mem_cons.mpr ⟨mo_126, List.forall_mem_cons.mpr ⟨mo_127, List.forall_mem_cons.mpr ⟨mo_128, List.forall_mem_cons.mpr ⟨mo_129, List.forall_mem_cons.mpr ⟨mo_130, List.forall_mem_cons.mpr ⟨mo_131, List.forall_mem_cons.mpr ⟨mo_132, List.forall_mem_cons.mpr ⟨mo_133, List.forall_mem_cons.mpr ⟨mo_134, List.forall_mem_cons.mpr ⟨mo_135, List.forall_mem_cons.mpr ⟨mo_136, List.forall_mem_cons.mpr ⟨mo_137, List.forall_mem_cons.mpr ⟨mo_138, List.forall_mem_cons.mpr ⟨mo_139, List.forall_mem_cons.mpr ⟨mo_140, List.forall_mem_cons.mpr ⟨mo_141, List.forall_mem_cons.mpr ⟨mo_142, List.forall_mem_cons.mpr ⟨mo_143, fun _ h => absurd h List.not_mem_nil⟩⟩⟩⟩⟩⟩⟩⟩⟩⟩⟩⟩⟩⟩⟩⟩⟩⟩⟩⟩⟩⟩⟩⟩
def metT_6 : List (Nat × Nat × Nat × Nat) := [(8, 86, 124, 0), (8, 87, 57, 0), (8, 90, 126, 0), (8, 91, 58, 0), (8, 94, 127, 0), (8, 95, 59, 0), (8, 98, 128, 0), (8, 99, 60, 0), (8, 102, 129, 0), (8, 103, 61, 0), (8, 106, 132, 0), (8, 107, 62, 0), (8, 110, 133, 0), (8, 111, 63, 0), (8, 114, 137, 0), (8, 115, 64, 0), (8, 118, 139, 0), (8, 119, 65, 0), (8, 122, 140, 0), (8, 123, 66, 0), (8, 126, 141, 0), (8, 127, 67, 0), (8, 131, 142, 0), (8, 132, 68, 0)]
theorem metOK_6 : ∀ e ∈ metT_6, MOK e := List.forall_mem_cons.mpr ⟨mo_144, List.forall_mem_cons.mpr ⟨mo_145, List.forall_mem_cons.mpr ⟨mo_146, List.forall_mem_cons.mpr ⟨mo_147, List.forall_mem_cons.mpr ⟨mo_148, List.forall_mem_cons.mpr ⟨mo_149, List.forall_mem_cons.mpr ⟨mo_150, List.forall_mem_cons.mpr ⟨mo_151, List.forall_mem_cons.mpr ⟨mo_152, List.forall_mem_cons.mpr ⟨mo_153, List.forall_mem_cons.mpr ⟨mo_154, List.forall_mem_cons.mpr ⟨mo_155, List.forall_mem_cons.mpr ⟨mo_156, List.forall_mem_cons.mpr ⟨mo_157, List.forall_mem_cons.mpr ⟨mo_158, List.forall_mem_cons.mpr ⟨mo_159, List.forall_mem_cons.mpr ⟨mo_160, List.forall_mem_cons.mpr ⟨mo_161, List.forall_mem_cons.mpr ⟨mo_162, List.forall_mem_cons.mpr ⟨mo_163, List.forall_mem_cons.mpr ⟨mo_164, List.forall_mem_cons.mpr ⟨mo_165, List.forall_mem_cons.mpr ⟨mo_166, List.forall_mem_cons.mpr ⟨mo_167, fun _ h => absurd h List.not_mem_nil⟩⟩⟩⟩⟩⟩⟩⟩⟩⟩⟩⟩⟩⟩⟩⟩⟩⟩⟩⟩⟩⟩⟩⟩
def metT_7 : List (Nat × Nat × Nat × Nat) := [(8, 136, 143, 0)]
theorem metOK_7 : ∀ e ∈ metT_7, MOK e := List.forall_mem_cons.mpr ⟨mo_168, fun _ h => absurd h List.not_mem_nil⟩
theorem metT_eq : metT = metT_0 ++ metT_1 ++ metT_2 ++ metT_3 ++ metT_4 ++ metT_5 ++ metT_6 ++ metT_7 := by decide +kernel
theorem metOK : ∀ e ∈ metT, MOK e := by
  rw [metT_eq]
  intro e he
  simp only [List.mem_append] at he
  rcases he with (((((((he | he) | he) | he) | he) | he) | he) | he)
  · exact metOK_0 e he
  · exact metOK_1 e he
  · exact metOK_2 e he
  · exact metOK_3 e he
  · exact metOK_4 e he
  · exact metOK_5 e he
  · exact metOK_6 e he
  · exact metOK_7 e he
theorem co_0_k : COK 0 := ⟨List.mem_of_getElem? (i := 369) (by decide +kernel), by decide +kernel, by decide +kernel, by decide +kernel⟩
theorem co_1_k : COK 1 := ⟨List.mem_of_getElem? (i := 410) (by decide +kernel), by decide +kernel, by decide +kernel, by decide +kernel⟩
theorem co_2_k : COK 2 := ⟨List.mem_of_getElem? (i := 388) (by decide +kernel), by decide +kernel, by decide +kernel, by decide +kernel⟩
theorem co_3_k : COK 3 := ⟨List.mem_of_getElem? (i := 394) (by decide +kernel), by decide +kernel, by decide +kernel, by decide +kernel⟩
theorem co_4_k : COK 4 := ⟨List.mem_of_getElem? (i := 401) (by decide +kernel), by decide +kernel, by decide +kernel, by decide +kernel⟩
theorem co_5_k : COK 5 := ⟨List.mem_of_getElem? (i := 405) (by decide +kernel), by decide +kernel, by decide +kernel, by decide +kernel⟩
theorem co_6_k : COK 6 := ⟨List.mem_of_getElem? (i := 414) (by decide +kernel), by decide +kernel, by decide +kernel, by decide +kernel⟩
theorem co_7_k : COK 7 := ⟨List.mem_of_getElem? (i := 418) (by decide +kernel), by decide +kernel, by decide +kernel, by decide +kernel⟩
theorem co_8_k : COK 8 := ⟨List.mem_of_getElem? (i := 444) (by decide +kernel), by decide +kernel, by decide +kernel, by decide +kernel⟩
theorem co_9_k : COK 9 := ⟨List.mem_of_getElem? (i := 502) (by decide +kernel), by decide +kernel, by decide +kernel, by decide +kernel⟩
theorem co_10_k : COK 10 := ⟨List.mem_of_getElem? (i := 494) (by decide +kernel), by decide +kernel, by decide +kernel, by decide +kernel⟩
theorem co_11_k : COK 11 := ⟨List.mem_of_getElem? (i := 485) (by decide +kernel), by decide +kernel, by decide +kernel, by decide +kernel⟩
theorem co_12_k : COK 12 := ⟨List.mem_of_getElem? (i := 561) (by decide +kernel), by decide +kernel, by decide +kernel, by decide +kernel⟩
theorem co_13_k : COK 13 := ⟨List.mem_of_getElem? (i := 548) (by decide +kernel), by decide +kernel, by decide +kernel, by decide +kernel⟩
theorem co_14_k : COK 14 := ⟨List.mem_of_getElem? (i := 300) (by decide +kernel), by decide +kernel, by decide +kernel, by decide +kernel⟩
theorem co_15_k : COK 15 := ⟨List.mem_of_getElem? (i := 320) (by decide +kernel), by decide +kernel, by decide +kernel, by decide +kernel⟩
theorem co_16_k : COK 16 := ⟨List.mem_of_getElem? (i := 324) (by decide +kernel), by decide +kernel, by decide +kernel, by decide +kernel⟩
theorem co_17_k : COK 17 := ⟨List.mem_of_getElem? (i := 350) (by decide +kernel), by decide +kernel, by decide +kernel, by decide +kernel⟩
theorem co_18_k : COK 18 := ⟨List.mem_of_getElem? (i := 335) (by decide +kernel), by decide +kernel, by decide +kernel, by decide +kernel⟩
theorem co_19_k : COK 19 := ⟨List.mem_of_getElem? (i := 357) (by decide +kernel), by decide +kernel, by decide +kernel, by decide +kernel⟩
theorem co_20_k : COK 20 := ⟨List.mem_of_getElem? (i := 328) (by decide +kernel), by decide +kernel, by decide +kernel, by decide +kernel⟩
theorem co_21_k : COK 21 := ⟨List.mem_of_getElem? (i := 331) (by decide +kernel), by decide +kernel, by decide +kernel, by decide +kernel⟩
theorem co_22_k : COK 22 := ⟨List.mem_of_getElem? (i := 342) (by decide +kernel), by decide +kernel, by decide +kernel, by decide +kernel⟩
theorem co_23_k : COK 23 := ⟨List.mem_of_getElem? (i := 354) (by decide +kernel), by decide +kernel, by decide +kernel, by decide +kernel⟩
theorem co_24_k : COK 24 := ⟨List.mem_of_getElem? (i := 339) (by decide +kernel), by decide +kernel, by decide +kernel, by decide +kernel⟩
theorem co_25_k : COK 25 := ⟨List.mem_of_getElem? (i := 229) (by decide +kernel), by decide +kernel, by decide +kernel, by decide +kernel⟩
theorem co_26_k : COK 26 := ⟨List.mem_of_getElem? (i := 225) (by decide +kernel), by decide +kernel, by decide +kernel, by decide +kernel⟩
theorem co_27_k : COK 27 := ⟨List.mem_of_getElem? (i := 277) (by decide +kernel), by decide +kernel, by decide +kernel, by decide +kernel⟩
theorem co_28_k : COK 28 := ⟨List.mem_of_getElem? (i := 217) (by decide +kernel), by decide +kernel, by decide +kernel, by decide +kernel⟩
theorem co_29_k : COK 29 := ⟨List.mem_of_getElem? (i := 236) (by decide +kernel), by decide +kernel, by decide +kernel, by decide +kernel⟩
theorem co_30_k : COK 30 := ⟨List.mem_of_getElem? (i := 240) (by decide +kernel), by decide +kernel, by decide +kernel, by decide +kernel⟩
theorem co_31_k : COK 31 := ⟨List.mem_of_getElem? (i := 462) (by decide +kernel), by decide +kernel, by decide +kernel, by decide +kernel⟩
theorem co_32_k : COK 32 := ⟨List.mem_of_getElem? (i := 316) (by decide +kernel), by decide +kernel, by decide +kernel, by decide +kernel⟩
theorem co_33_k : COK 33 := ⟨List.mem_of_getElem? (i := 264) (by decide +kernel), by decide +kernel, by decide +kernel, by decide +kernel⟩
theorem co_34_k : COK 34 := ⟨List.mem_of_getElem? (i := 376) (by decide +kernel), by decide +kernel, by decide +kernel, by decide +kernel⟩
theorem co_35_k : COK 35 := ⟨List.mem_of_getElem? (i := 273) (by decide +kernel), by decide +kernel, by decide +kernel, by decide +kernel⟩
theorem co_36_k : COK 36 := ⟨List.mem_of_getElem? (i := 269) (by decide +kernel), by decide +kernel, by decide +kernel, by decide +kernel⟩
theorem co_37_k : COK 37 := ⟨List.mem_of_getElem? (i := 284) (by decide +kernel), by decide +kernel, by decide +kernel, by decide +kernel⟩
theorem co_38_k : COK 38 := ⟨List.mem_of_getElem? (i := 471) (by decide +kernel), by decide +kernel, by decide +kernel, by decide +kernel⟩
theorem co_39_k : COK 39 := ⟨List.mem_of_getElem? (i := 475) (by decide +kernel), by decide +kernel, by decide +kernel, by decide +kernel⟩
theorem co_40_k : COK 40 := ⟨List.mem_of_getElem? (i := 309) (by decide +kernel), by decide +kernel, by decide +kernel, by decide +kernel⟩
theorem co_41_k : COK 41 := ⟨List.mem_of_getElem? (i := 210) (by decide +kernel), by decide +kernel, by decide +kernel, by decide +kernel⟩
theorem co_42_k : COK 42 := ⟨List.mem_of_getElem? (i := 221) (by decide +kernel), by decide +kernel, by decide +kernel, by decide +kernel⟩
theorem co_43_k : COK 43 := ⟨List.mem_of_getElem? (i := 244) (by decide +kernel), by decide +kernel, by decide +kernel, by decide +kernel⟩
theorem co_44_k : COK 44 := ⟨List.mem_of_getElem? (i := 249) (by decide +kernel), by decide +kernel, by decide +kernel, by decide +kernel⟩
theorem co_45_k : COK 45 := ⟨List.mem_of_getElem? (i := 256) (by decide +kernel), by decide +kernel, by decide +kernel, by decide +kernel⟩
theorem co_46_k : COK 46 := ⟨List.mem_of_getElem? (i := 260) (by decide +kernel), by decide +kernel, by decide +kernel, by decide +kernel⟩
theorem co_47_k : COK 47 := ⟨List.mem_of_getElem? (i := 289) (by decide +kernel), by decide +kernel, by decide +kernel, by decide +kernel⟩
theorem co_48_k : COK 48 := ⟨List.mem_of_getElem? (i := 305) (by decide +kernel), by decide +kernel, by decide +kernel, by decide +kernel⟩
theorem co_49_k : COK 49 := ⟨List.mem_of_getElem? (i := 365) (by decide +kernel), by decide +kernel, by decide +kernel, by decide +kernel⟩
theorem co_50_k : COK 50 := ⟨List.mem_of_getElem? (i := 380) (by decide +kernel), by decide +kernel, by decide +kernel, by decide +kernel⟩
theorem co_51_k : COK 51 := ⟨List.mem_of_getElem? (i := 433) (by decide +kernel), by decide +kernel, by decide +kernel, by decide +kernel⟩
theorem co_52_k : COK 52 := ⟨List.mem_of_getElem? (i := 440) (by decide +kernel), by decide +kernel, by decide +kernel, by decide +kernel⟩
theorem co_53_k : COK 53 := ⟨List.mem_of_getElem? (i := 448) (by decide +kernel), by decide +kernel, by decide +kernel, by decide +kernel⟩
theorem co_54_k : COK 54 := ⟨List.mem_of_getElem? (i := 458) (by decide +kernel), by decide +kernel, by decide +kernel, by decide +kernel⟩
theorem co_55_k : COK 55 := ⟨List.mem_of_getElem? (i := 467) (by decide +kernel), by decide +kernel, by decide +kernel, by decide +kernel⟩
theorem co_56_k : COK 56 := ⟨List.mem_of_getElem? (i := 481) (by decide +kernel), by decide +kernel, by decide +kernel, by decide +kernel⟩
theorem co_57_k : COK 57 := ⟨List.mem_of_getElem? (i := 490) (by decide +kernel), by decide +kernel, by decide +kernel, by decide +kernel⟩
theorem co_58_k : COK 58 := ⟨List.mem_of_getElem? (i := 498) (by decide +kernel), by decide +kernel, by decide +kernel, by decide +kernel⟩
theorem co_59_k : COK 59 := ⟨List.mem_of_getElem? (i := 506) (by decide +kernel), by decide +kernel, by decide +kernel, by decide +kernel⟩
theorem co_60_k : COK 60 := ⟨List.mem_of_getElem? (i := 518) (by decide +kernel), by decide +kernel, by decide +kernel, by decide +kernel⟩
theorem co_61_k : COK 61 := ⟨List.mem_of_getElem? (i := 526) (by decide +kernel), by decide +kernel, by decide +kernel, by decide +kernel⟩
theorem co_62_k : COK 62 := ⟨List.mem_of_getElem? (i := 530) (by decide +kernel), by decide +kernel, by decide +kernel, by decide +kernel⟩
theorem co_63_k : COK 63 := ⟨List.mem_of_getElem? (i := 534) (by decide +kernel), by decide +kernel, by decide +kernel, by decide +kernel⟩
theorem co_64_k : COK 64 := ⟨List.mem_of_getElem? (i := 553) (by decide +kernel), by decide +kernel, by decide +kernel, by decide +kernel⟩
theorem co_65_k : COK 65 := ⟨List.mem_of_getElem? (i := 557) (by decide +kernel), by decide +kernel, by decide +kernel, by decide +kernel⟩
theorem co_66_k : COK 66 := ⟨List.mem_of_getElem? (i := 565) (by decide +kernel), by decide +kernel, by decide +kernel, by decide +kernel⟩
theorem co_67_k : COK 67 := ⟨List.mem_of_getElem? (i := 569) (by decide +kernel), by decide +kernel, by decide +kernel, by decide +kernel⟩
theorem co_68_k : COK 68 := ⟨List.mem_of_getElem? (i := 576) (by decide +kernel), by decide +kernel, by decide +kernel, by decide +kernel⟩
theorem co_69_k : COK 69 := ⟨List.mem_of_getElem? (i := 213) (by decide +kernel), by decide +kernel, by decide +kernel, by decide +kernel⟩
theorem co_70_k : COK 70 := ⟨List.mem_of_getElem? (i := 232) (by decide +kernel), by decide +kernel, by decide +kernel, by decide +kernel⟩
theorem co_71_k : COK 71 := ⟨List.mem_of_getElem? (i := 252) (by decide +kernel), by decide +kernel, by decide +kernel, by decide +kernel⟩
theorem co_72_k : COK 72 := ⟨List.mem_of_getElem? (i := 383) (by decide +kernel), by decide +kernel, by decide +kernel, by decide +kernel⟩
theorem co_73_k : COK 73 := ⟨List.mem_of_getElem? (i := 541) (by decide +kernel), by decide +kernel, by decide +kernel, by decide +kernel⟩
theorem co_74_k : COK 74 := ⟨List.mem_of_getElem? (i := 544) (by decide +kernel), by decide +kernel, by decide +kernel, by decide +kernel⟩
theorem co_75_k : COK 75 := ⟨List.mem_of_getElem? (i := 280) (by decide +kernel), by decide +kernel, by decide +kernel, by decide +kernel⟩
theorem co_76_k : COK 76 := ⟨List.mem_of_getElem? (i := 292) (by decide +kernel), by decide +kernel, by decide +kernel, by decide +kernel⟩
theorem co_77_k : COK 77 := ⟨List.mem_of_getElem? (i := 295) (by decide +kernel), by decide +kernel, by decide +kernel, by decide +kernel⟩
theorem co_78_k : COK 78 := ⟨List.mem_of_getElem? (i := 572) (by decide +kernel), by decide +kernel, by decide +kernel, by decide +kernel⟩
theorem co_79_k : COK 79 := ⟨List.mem_of_getElem? (i := 423) (by decide +kernel), by decide +kernel, by decide +kernel, by decide +kernel⟩
theorem co_80_k : COK 80 := ⟨List.mem_of_getElem? (i := 429) (by decide +kernel), by decide +kernel, by decide +kernel, by decide +kernel⟩
theorem co_81_k : COK 81 := ⟨List.mem_of_getElem? (i := 453) (by decide +kernel), by decide +kernel, by decide +kernel, by decide +kernel⟩
theorem co_82_k : COK 82 := ⟨List.mem_of_getElem? (i := 510) (by decide +kernel), by decide +kernel, by decide +kernel, by decide +kernel⟩
theorem co_83_k : COK 83 := ⟨List.mem_of_getElem? (i := 514) (by decide +kernel), by decide +kernel, by decide +kernel, by decide +kernel⟩
theorem co_84_k : COK 84 := ⟨List.mem_of_getElem? (i := 522) (by decide +kernel), by decide +kernel, by decide +kernel, by decide +kernel⟩
theorem co_85_k : COK 85 := ⟨List.mem_of_getElem? (i := 538) (by decide +kernel), by decide +kernel, by decide +kernel, by decide +kernel⟩
theorem co_86_k : COK 86 := ⟨List.mem_of_getElem? (i := 688) (by decide +kernel), by decide +kernel, by decide +kernel, by decide +kernel⟩
theorem co_87_k : COK 87 := ⟨List.mem_of_getElem? (i := 705) (by decide +kernel), by decide +kernel, by decide +kernel, by decide +kernel⟩
theorem co_88_k : COK 88 := ⟨List.mem_of_getElem? (i := 701) (by decide +kernel), by decide +kernel, by decide +kernel, by decide +kernel⟩
theorem co_89_k : COK 89 := ⟨List.mem_of_getElem? (i := 693) (by decide +kernel), by decide +kernel, by decide +kernel, by decide +kernel⟩
theorem co_90_k : COK 90 := ⟨List.mem_of_getElem? (i := 684) (by decide +kernel), by decide +kernel, by decide +kernel, by decide +kernel⟩
theorem co_91_k : COK 91 := ⟨List.mem_of_getElem? (i := 710) (by decide +kernel), by decide +kernel, by decide +kernel, by decide +kernel⟩
theorem co_92_k : COK 92 := ⟨List.mem_of_getElem? (i := 697) (by decide +kernel), by decide +kernel, by decide +kernel, by decide +kernel⟩
theorem co_93_k : COK 93 := ⟨List.mem_of_getElem? (i := 714) (by decide +kernel), by decide +kernel, by decide +kernel, by decide +kernel⟩
theorem co_94_k : COK 94 := ⟨List.mem_of_getElem? (i := 718) (by decide +kernel), by decide +kernel, by decide +kernel, by decide +kernel⟩
theorem co_95_k : COK 95 := ⟨List.mem_of_getElem? (i := 722) (by decide +kernel), by decide +kernel, by decide +kernel, by decide +kernel⟩
theorem co_96_k : COK 96 := ⟨List.mem_of_getElem? (i := 731) (by decide +kernel), by decide +kernel, by decide +kernel, by decide +kernel⟩
theorem co_97_k : COK 97 := ⟨List.mem_of_getElem? (i := 739) (by decide +kernel), by decide +kernel, by decide +kernel, by decide +kernel⟩
theorem co_98_k : COK 98 := ⟨List.mem_of_getElem? (i := 735) (by decide +kernel), by decide +kernel, by decide +kernel, by decide +kernel⟩
theorem co_99_k : COK 99 := ⟨List.mem_of_getElem? (i := 726) (by decide +kernel), by decide +kernel, by decide +kernel, by decide +kernel⟩
theorem co_100_k : COK 100 := ⟨List.mem_of_getElem? (i := 743) (by decide +kernel), by decide +kernel, by decide +kernel, by decide +kernel⟩
theorem co_101_k : COK 101 := ⟨List.mem_of_getElem? (i := 746) (by decide +kernel), by decide +kernel, by decide +kernel, by decide +kernel⟩
theorem co_102_k : COK 102 := ⟨List.mem_of_getElem? (i := 750) (by decide +kernel), by decide +kernel, by decide +kernel, by decide +kernel⟩
theorem co_103_k : COK 103 := ⟨List.mem_of_getElem? (i := 766) (by decide +kernel), by decide +kernel, by decide +kernel, by decide +kernel⟩
theorem co_104_k : COK 104 := ⟨List.mem_of_getElem? (i := 779) (by decide +kernel), by decide +kernel, by decide +kernel, by decide +kernel⟩
theorem co_105_k : COK 105 := ⟨List.mem_of_getElem? (i := 787) (by decide +kernel), by decide +kernel, by decide +kernel, by decide +kernel⟩
theorem co_106_k : COK 106 := ⟨List.mem_of_getElem? (i := 773) (by decide +kernel), by decide +kernel, by decide +kernel, by decide +kernel⟩
theorem co_107_k : COK 107 := ⟨List.mem_of_getElem? (i := 769) (by decide +kernel), by decide +kernel, by decide +kernel, by decide +kernel⟩
theorem co_108_k : COK 108 := ⟨List.mem_of_getElem? (i := 762) (by decide +kernel), by decide +kernel, by decide +kernel, by decide +kernel⟩
theorem co_109_k : COK 109 := ⟨List.mem_of_getElem? (i := 783) (by decide +kernel), by decide +kernel, by decide +kernel, by decide +kernel⟩
theorem co_110_k : COK 110 := ⟨List.mem_of_getElem? (i := 758) (by decide +kernel), by decide +kernel, by decide +kernel, by decide +kernel⟩
theorem co_111_k : COK 111 := ⟨List.mem_of_getElem? (i := 796) (by decide +kernel), by decide +kernel, by decide +kernel, by decide +kernel⟩
theorem co_112_k : COK 112 := ⟨List.mem_of_getElem? (i := 800) (by decide +kernel), by decide +kernel, by decide +kernel, by decide +kernel⟩
theorem co_113_k : COK 113 := ⟨List.mem_of_getElem? (i := 807) (by decide +kernel), by decide +kernel, by decide +kernel, by decide +kernel⟩
theorem co_114_k : COK 114 := ⟨List.mem_of_getElem? (i := 804) (by decide +kernel), by decide +kernel, by decide +kernel, by decide +kernel⟩
theorem co_115_k : COK 115 := ⟨List.mem_of_getElem? (i := 791) (by decide +kernel), by decide +kernel, by decide +kernel, by decide +kernel⟩
theorem co_116_k : COK 116 := ⟨List.mem_of_getElem? (i := 812) (by decide +kernel), by decide +kernel, by decide +kernel, by decide +kernel⟩
theorem co_117_k : COK 117 := ⟨List.mem_of_getElem? (i := 817) (by decide +kernel), by decide +kernel, by decide +kernel, by decide +kernel⟩
theorem co_118_k : COK 118 := ⟨List.mem_of_getElem? (i := 830) (by decide +kernel), by decide +kernel, by decide +kernel, by decide +kernel⟩
theorem co_119_k : COK 119 := ⟨List.mem_of_getElem? (i := 826) (by decide +kernel), by decide +kernel, by decide +kernel, by decide +kernel⟩
theorem co_120_k : COK 120 := ⟨List.mem_of_getElem? (i := 821) (by decide +kernel), by decide +kernel, by decide +kernel, by decide +kernel⟩
theorem co_121_k : COK 121 := ⟨List.mem_of_getElem? (i := 835) (by decide +kernel), by decide +kernel, by decide +kernel, by decide +kernel⟩
theorem co_122_k : COK 122 := ⟨List.mem_of_getElem? (i := 843) (by decide +kernel), by decide +kernel, by decide +kernel, by decide +kernel⟩
theorem co_123_k : COK 123 := ⟨List.mem_of_getElem? (i := 839) (by decide +kernel), by decide +kernel, by decide +kernel, by decide +kernel⟩
theorem co_124_k : COK 124 := ⟨List.mem_of_getElem? (i := 847) (by decide +kernel), by decide +kernel, by decide +kernel, by decide +kernel⟩
theorem co_125_k : COK 125 := ⟨List.mem_of_getElem? (i := 855) (by decide +kernel), by decide +kernel, by decide +kernel, by decide +kernel⟩
theorem co_126_k : COK 126 := ⟨List.mem_of_getElem? (i := 851) (by decide +kernel), by decide +kernel, by decide +kernel, by decide +kernel⟩
theorem co_127_k : COK 127 := ⟨List.mem_of_getElem? (i := 859) (by decide +kernel), by decide +kernel, by decide +kernel, by decide +kernel⟩
theorem co_128_k : COK 128 := ⟨List.mem_of_getElem? (i := 863) (by decide +kernel), by decide +kernel, by decide +kernel, by decide +kernel⟩
theorem co_129_k : COK 129 := ⟨List.mem_of_getElem? (i := 867) (by decide +kernel), by decide +kernel, by decide +kernel, by decide +kernel⟩
theorem co_130_k : COK 130 := ⟨List.mem_of_getElem? (i := 875) (by decide +kernel), by decide +kernel, by decide +kernel, by decide +kernel⟩
theorem co_131_k : COK 131 := ⟨List.mem_of_getElem? (i := 883) (by decide +kernel), by decide +kernel, by decide +kernel, by decide +kernel⟩
theorem co_132_k : COK 132 := ⟨List.mem_of_getElem? (i := 871) (by decide +kernel), by decide +kernel, by decide +kernel, by decide +kernel⟩
theorem co_133_k : COK 133 := ⟨List.mem_of_getElem? (i := 879) (by decide +kernel), by decide +kernel, by decide +kernel, by decide +kernel⟩
theorem co_134_k : COK 134 := ⟨List.mem_of_getElem? (i := 890) (by decide +kernel), by decide +kernel, by decide +kernel, by decide +kernel⟩
theorem co_135_k : COK 135 := ⟨List.mem_of_getElem? (i := 893) (by decide +kernel), by decide +kernel, by decide +kernel, by decide +kernel⟩
theorem co_136_k : COK 136 := ⟨List.mem_of_getElem? (i := 897) (by decide +kernel), by decide +kernel, by decide +kernel, by decide +kernel⟩
theorem co_137_k : COK 137 := ⟨List.mem_of_getElem? (i := 887) (by decide +kernel), by decide +kernel, by decide +kernel, by decide +kernel⟩
theorem co_138_k : COK 138 := ⟨List.mem_of_getElem? (i := 905) (by decide +kernel), by decide +kernel, by decide +kernel, by decide +kernel⟩
theorem co_139_k : COK 139 := ⟨List.mem_of_getElem? (i := 901) (by decide +kernel), by decide +kernel, by decide +kernel, by decide +kernel⟩
theorem co_140_k : COK 140 := ⟨List.mem_of_getElem? (i := 909) (by decide +kernel), by decide +kernel, by decide +kernel, by decide +kernel⟩
theorem co_141_k : COK 141 := ⟨List.mem_of_getElem? (i := 913) (by decide +kernel), by decide +kernel, by decide +kernel, by decide +kernel⟩
theorem co_142_k : COK 142 := ⟨List.mem_of_getElem? (i := 917) (by decide +kernel), by decide +kernel, by decide +kernel, by decide +kernel⟩
theorem co_143_k : COK 143 := ⟨List.mem_of_getElem? (i := 921) (by decide +kernel), by decide +kernel, by decide +kernel, by decide +kernel⟩
theorem codOK : ∀ k, k < 144 → COK k := by
  intro k hk
  match k, hk with
  | 0, _ => exact co_0_k
  | 1, _ => exact co_1_k
  | 2, _ => exact co_2_k
  | 3, _ => exact co_3_k
  | 4, _ => exact co_4_k
  | 5, _ => exact co_5_k
  | 6, _ => exact co_6_k
  | 7, _ => exact co_7_k
  | 8, _ => exact co_8_k
  | 9, _ => exact co_9_k
  | 10, _ => exact co_10_k
  | 11, _ => exact co_11_k
  | 12, _ => exact co_12_k
  | 13, _ => exact co_13_k
  | 14, _ => exact co_14_k
  | 15, _ => exact co_15_k
  | 16, _ => exact co_16_k
  | 17, _ => exact co_17_k
  | 18, _ => exact co_18_k
  | 19, _ => exact co_19_k
  | 20, _ => exact co_20_k
  | 21, _ => exact co_21_k
  | 22, _ => exact co_22_k
  | 23, _ => exact co_23_k
  | 24, _ => exact co_24_k
  | 25, _ => exact co_25_k
  | 26, _ => exact co_26_k
  | 27, _ => exact co_27_k
  | 28, _ => exact co_28_k
  | 29, _ => exact co_29_k
  | 30, _ => exact co_30_k
  | 31, _ => exact co_31_k
  | 32, _ => exact co_32_k
  | 33, _ => exact co_33_k
  | 34, _ => exact co_34_k
  | 35, _ => exact co_35_k
  | 36, _ => exact co_36_k
  | 37, _ => exact co_37_k
  | 38, _ => exact co_38_k
  | 39, _ => exact co_39_k
  | 40, _ => exact co_40_k
  | 41, _ => exact co_41_k
  | 42, _ => exact co_42_k
  | 43, _ => exact co_43_k
  | 44, _ => exact co_44_k
  | 45, _ => exact co_45_k
  | 46, _ => exact co_46_k
  | 47, _ => exact co_47_k
  | 48, _ => exact co_48_k
  | 49, _ => exact co_49_k
  | 50, _ => exact co_50_k
  | 51, _ => exact co_51_k
  | 52, _ => exact co_52_k
  | 53, _ => exact co_53_k
  | 54, _ => exact co_54_k
  | 55, _ => exact co_55_k
  | 56, _ => exact co_56_k
  | 57, _ => exact co_57_k
  | 58, _ => exact co_58_k
  | 59, _ => exact co_59_k
  | 60, _ => exact co_60_k
  | 61, _ => exact co_61_k
  | 62, _ => exact co_62_k
  | 63, _ => exact co_63_k
  | 64, _ => exact co_64_k
  | 65, _ => exact co_65_k
  | 66, _ => exact co_66_k
  | 67, _ => exact co_67_k
  | 68, _ => exact co_68_k
  | 69, _ => exact co_69_k
  | 70, _ => exact co_70_k
  | 71, _ => exact co_71_k
  | 72, _ => exact co_72_k
  | 73, _ => exact co_73_k
  | 74, _ => exact co_74_k
  | 75, _ => exact co_75_k
  | 76, _ => exact co_76_k
  | 77, _ => exact co_77_k
  | 78, _ => exact co_78_k
  | 79, _ => exact co_79_k
  | 80, _ => exact co_80_k
  | 81, _ => exact co_81_k
  | 82, _ => exact co_82_k
  | 83, _ => exact co_83_k
  | 84, _ => exact co_84_k
  | 85, _ => exact co_85_k
  | 86, _ => exact co_86_k
  | 87, _ => exact co_87_k
  | 88, _ => exact co_88_k
  | 89, _ => exact co_89_k
  | 90, _ => exact co_90_k
  | 91, _ => exact co_91_k
  | 92, _ => exact co_92_k
  | 93, _ => exact co_93_k
  | 94, _ => exact co_94_k
  | 95, _ => exact co_95_k
  | 96, _ => exact co_96_k
  | 97, _ => exact co_97_k
  | 98, _ => exact co_98_k
  | 99, _ => exact co_99_k
  | 100, _ => exact co_100_k
  | 101, _ => exact co_101_k
  | 102, _ => exact co_102_k
  | 103, _ => exact co_103_k
  | 104, _ => exact co_104_k
  | 105, _ => exact co_105_k
  | 106, _ => exact co_106_k
  | 107, _ => exact co_107_k
  | 108, _ => exact co_108_k
  | 109, _ => exact co_109_k
  | 110, _ => exact co_110_k
  | 111, _ => exact co_111_k
  | 112, _ => exact co_112_k
  | 113, _ => exact co_113_k
  | 114, _ => exact co_114_k
  | 115, _ => exact co_115_k
  | 116, _ => exact co_116_k
  | 117, _ => exact co_117_k
  | 118, _ => exact co_118_k
  | 119, _ => exact co_119_k
  | 120, _ => exact co_120_k
  | 121, _ => exact co_121_k
  | 122, _ => exact co_122_k
  | 123, _ => exact co_123_k
  | 124, _ => exact co_124_k
  | 125, _ => exact co_125_k
  | 126, _ => exact co_126_k
  | 127, _ => exact co_127_k
  | 128, _ => exact co_128_k
  | 129, _ => exact co_129_k
  | 130, _ => exact co_130_k
  | 131, _ => exact co_131_k
  | 132, _ => exact co_132_k
  | 133, _ => exact co_133_k
  | 134, _ => exact co_134_k
  | 135, _ => exact co_135_k
  | 136, _ => exact co_136_k
  | 137, _ => exact co_137_k
  | 138, _ => exact co_138_k
  | 139, _ => exact co_139_k
  | 140, _ => exact co_140_k
  | 141, _ => exact co_141_k
  | 142, _ => exact co_142_k
  | 143, _ => exact co_143_k
  | n + 144, hk => exact absurd hk (by omega)
theorem ko_0 : KOK (4, 148, .long (-1)) := List.mem_of_getElem? (i := 384) (by decide +kernel)
theorem ko_1 : KOK (4, 156, .long (-4)) := List.mem_of_getElem? (i := 420) (by decide +kernel)
theorem ko_2 : KOK (4, 172, .long (-2)) := List.mem_of_getElem? (i := 435) (by decide +kernel)
theorem ko_3 : KOK (4, 182, .long (-1000000000000000001)) := List.mem_of_getElem? (i := 449) (by decide +kernel)
theorem ko_4 : KOK (4, 227, .long 99) := List.mem_of_getElem? (i := 549) (by decide +kernel)
theorem ko_5 : KOK (4, 262, .long 255) := List.mem_of_getElem? (i := 296) (by decide +kernel)
theorem ko_6 : KOK (4, 274, .long (-1000000000000000004)) := List.mem_of_getElem? (i := 454) (by decide +kernel)
theorem ko_7 : KOK (5, 89, .long 3) := List.mem_of_getElem? (i := 685) (by decide +kernel)
theorem ko_8 : KOK (5, 91, .long 99) := List.mem_of_getElem? (i := 689) (by decide +kernel)
theorem ko_9 : KOK (5, 101, .long 2) := List.mem_of_getElem? (i := 706) (by decide +kernel)
theorem ko_10 : KOK (5, 113, .long 5) := List.mem_of_getElem? (i := 727) (by decide +kernel)
theorem ko_11 : KOK (5, 129, .long 8) := List.mem_of_getElem? (i := 751) (by decide +kernel)
theorem ko_12 : KOK (5, 131, .long 255) := List.mem_of_getElem? (i := 752) (by decide +kernel)
theorem ko_13 : KOK (5, 133, .long 32) := List.mem_of_getElem? (i := 753) (by decide +kernel)
theorem ko_14 : KOK (5, 135, .long 126) := List.mem_of_getElem? (i := 754) (by decide +kernel)
theorem ko_15 : KOK (5, 150, .long 48) := List.mem_of_getElem? (i := 774) (by decide +kernel)
theorem ko_16 : KOK (5, 152, .long 57) := List.mem_of_getElem? (i := 775) (by decide +kernel)
theorem ko_17 : KOK (5, 188, .long (-1)) := List.mem_of_getElem? (i := 792) (by decide +kernel)
theorem ko_18 : KOK (5, 200, .long (-4)) := List.mem_of_getElem? (i := 808) (by decide +kernel)
theorem ko_19 : KOK (5, 202, .long (-2)) := List.mem_of_getElem? (i := 813) (by decide +kernel)
theorem ko_20 : KOK (5, 204, .long (-1000000000000000004)) := List.mem_of_getElem? (i := 831) (by decide +kernel)
theorem ko_21 : KOK (5, 206, .long (-1000000000000000001)) := List.mem_of_getElem? (i := 822) (by decide +kernel)
theorem ko_22 : KOK (6, 265, .int 1431655765) := List.mem_of_getElem? (i := 370) (by decide +kernel)
theorem ko_23 : KOK (6, 266, .int 858993459) := List.mem_of_getElem? (i := 371) (by decide +kernel)
theorem ko_24 : KOK (6, 267, .int 252645135) := List.mem_of_getElem? (i := 372) (by decide +kernel)
theorem ko_25 : KOK (8, 40, .long 4294967295) := List.mem_of_getElem? (i := 922) (by decide +kernel)
theorem conOK : ∀ e ∈ conT, KOK e := List.forall_mem_cons.mpr ⟨ko_0, List.forall_mem_cons.mpr ⟨ko_1, List.forall_mem_cons.mpr ⟨ko_2, List.forall_mem_cons.mpr ⟨ko_3, List.forall_mem_cons.mpr ⟨ko_4, List.forall_mem_cons.mpr ⟨ko_5, List.forall_mem_cons.mpr ⟨ko_6, List.forall_mem_cons.mpr ⟨ko_7, List.forall_mem_cons.mpr ⟨ko_8, List.forall_mem_cons.mpr ⟨ko_9, List.forall_mem_cons.mpr ⟨ko_10, List.forall_mem_cons.mpr ⟨ko_11, List.forall_mem_cons.mpr ⟨ko_12, List.forall_mem_cons.mpr ⟨ko_13, List.forall_mem_cons.mpr ⟨ko_14, List.forall_mem_cons.mpr ⟨ko_15, List.forall_mem_cons.mpr ⟨ko_16, List.forall_mem_cons.mpr ⟨ko_17, List.forall_mem_cons.mpr ⟨ko_18, List.forall_mem_cons.mpr ⟨ko_19, List.forall_mem_cons.mpr ⟨ko_20, List.forall_mem_cons.mpr ⟨ko_21, List.forall_mem_cons.mpr ⟨ko_22, List.forall_mem_cons.mpr ⟨ko_23, List.forall_mem_cons.mpr ⟨ko_24, List.forall_mem_cons.mpr ⟨ko_25, fun _ h => absurd h List.not_mem_nil⟩⟩⟩⟩⟩⟩⟩⟩⟩⟩⟩⟩⟩⟩⟩⟩⟩⟩⟩⟩⟩⟩⟩⟩⟩⟩


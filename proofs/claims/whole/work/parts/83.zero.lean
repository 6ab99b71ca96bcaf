/-! the heap behind the two constructors, as an abstract heap -/
def bth_L : List AC := [aO 4 [.ref 1, .ref 8, .ref 15, .ref 22, .ref 26, .ref 28, .ref 29, .ref 30, .int 0], aO 3 [.int 0, .ref 2, .ref 3, .ref 4, .ref 5, .ref 6, .int 50, .int 0, .ref 7], aI 8 (fun _ => 0), aI 8 (fun _ => 0), aI 8 (fun _ => 0), aI 8 (fun _ => 0), aI 64 (fun _ => 0), aI 8 (fun _ => 0), aO 3 [.int 0, .ref 9, .ref 10, .ref 11, .ref 12, .ref 13, .int 50, .int 0, .ref 14], aI 8 (fun _ => 0), aI 8 (fun _ => 0), aI 8 (fun _ => 0), aI 8 (fun _ => 0), aI 64 (fun _ => 0), aI 8 (fun _ => 0), aO 3 [.int 0, .ref 16, .ref 17, .ref 18, .ref 19, .ref 20, .int 50, .int 0, .ref 21], aI 8 (fun _ => 0), aI 8 (fun _ => 0), aI 8 (fun _ => 0), aI 8 (fun _ => 0), aI 64 (fun _ => 0), aI 8 (fun _ => 0), aO 0 [.ref 23, .long 1, .int 0, .int 0, .int 0, .ref 24, .ref 25], aJ 8 (fun _ => 0), aI 8 (fun _ => 0), aJ 72 (fun _ => 0), aO 2 [.ref 27, .int 0, .int 0], aB 100 (fun _ => 0), aR 4 shR, aJ 100 (fun _ => 0), aJ 100 (fun _ => 0), aO 1 [.int 0, .int 0, .int 0, .ref 32], aJ 20 (fun _ => 0), aO 1 [.int 0, .int 0, .int 0, .ref 34], aJ 20 (fun _ => 0), aO 1 [.int 0, .int 0, .int 0, .ref 36], aJ 20 (fun _ => 0), aO 1 [.int 0, .int 0, .int 0, .ref 38], aJ 20 (fun _ => 0), aO 5 [.int 0, .ref 40, .ref 41, .ref 42, .ref 43, .ref 44, .int 50, .int 0, .int 0, .ref 45, .int 0, .int 0, .int 0, .ref 46, .ref 47, .ref 48, .ref 49, .ref 50, .long 0, .int 0, .int 0, .ref 51, .ref 52, .ref 53, .ref 54, .ref 55, .ref 56, .int 0, .ref 57, .ref 58, .ref 59, .ref 60], aI 8 (fun _ => 0), aI 8 (fun _ => 0), aI 8 (fun _ => 0), aI 8 (fun _ => 0), aI 64 (fun _ => 0), aI 100 (fun _ => 0), aI 16 (fun _ => 0), aI 64 (fun _ => 0), aJ 64 (fun _ => 0), aJ 8 (fun _ => 0), aJ 8 (fun _ => 0), aI 64 (fun _ => 0), aI 8 (fun _ => 0), aI 8 (fun _ => 0), aJ 100 (fun _ => 0), aJ 100 (fun _ => 0), aI 99 (fun _ => 0), aI 4 (upd (upd (upd (upd (fun _ => 0) 0 (-1)) 1 (-1)) 2 (-1)) 3 (-1)), aI 4 (fun _ => 0), aJ 80 (fun _ => 0), aJ 20 (fun _ => 0)]
def bth_H : AH := fun i => bth_L.getD i (aO 99 [])
theorem bth_c0 : bth_H 0 = aO 4 [.ref 1, .ref 8, .ref 15, .ref 22, .ref 26, .ref 28, .ref 29, .ref 30, .int 0] := rfl
theorem bth_c1 : bth_H 1 = aO 3 [.int 0, .ref 2, .ref 3, .ref 4, .ref 5, .ref 6, .int 50, .int 0, .ref 7] := rfl
theorem bth_c2 : bth_H 2 = aI 8 (fun _ => 0) := rfl
theorem bth_c3 : bth_H 3 = aI 8 (fun _ => 0) := rfl
theorem bth_c4 : bth_H 4 = aI 8 (fun _ => 0) := rfl
theorem bth_c5 : bth_H 5 = aI 8 (fun _ => 0) := rfl
theorem bth_c6 : bth_H 6 = aI 64 (fun _ => 0) := rfl
theorem bth_c7 : bth_H 7 = aI 8 (fun _ => 0) := rfl
theorem bth_c8 : bth_H 8 = aO 3 [.int 0, .ref 9, .ref 10, .ref 11, .ref 12, .ref 13, .int 50, .int 0, .ref 14] := rfl
theorem bth_c9 : bth_H 9 = aI 8 (fun _ => 0) := rfl
theorem bth_c10 : bth_H 10 = aI 8 (fun _ => 0) := rfl
theorem bth_c11 : bth_H 11 = aI 8 (fun _ => 0) := rfl
theorem bth_c12 : bth_H 12 = aI 8 (fun _ => 0) := rfl
theorem bth_c13 : bth_H 13 = aI 64 (fun _ => 0) := rfl
theorem bth_c14 : bth_H 14 = aI 8 (fun _ => 0) := rfl
theorem bth_c15 : bth_H 15 = aO 3 [.int 0, .ref 16, .ref 17, .ref 18, .ref 19, .ref 20, .int 50, .int 0, .ref 21] := rfl
theorem bth_c16 : bth_H 16 = aI 8 (fun _ => 0) := rfl
theorem bth_c17 : bth_H 17 = aI 8 (fun _ => 0) := rfl
theorem bth_c18 : bth_H 18 = aI 8 (fun _ => 0) := rfl
theorem bth_c19 : bth_H 19 = aI 8 (fun _ => 0) := rfl
theorem bth_c20 : bth_H 20 = aI 64 (fun _ => 0) := rfl
theorem bth_c21 : bth_H 21 = aI 8 (fun _ => 0) := rfl
theorem bth_c22 : bth_H 22 = aO 0 [.ref 23, .long 1, .int 0, .int 0, .int 0, .ref 24, .ref 25] := rfl
theorem bth_c23 : bth_H 23 = aJ 8 (fun _ => 0) := rfl
theorem bth_c24 : bth_H 24 = aI 8 (fun _ => 0) := rfl
theorem bth_c25 : bth_H 25 = aJ 72 (fun _ => 0) := rfl
theorem bth_c26 : bth_H 26 = aO 2 [.ref 27, .int 0, .int 0] := rfl
theorem bth_c27 : bth_H 27 = aB 100 (fun _ => 0) := rfl
theorem bth_c28 : bth_H 28 = aR 4 shR := rfl
theorem bth_c29 : bth_H 29 = aJ 100 (fun _ => 0) := rfl
theorem bth_c30 : bth_H 30 = aJ 100 (fun _ => 0) := rfl
theorem bth_c31 : bth_H 31 = aO 1 [.int 0, .int 0, .int 0, .ref 32] := rfl
theorem bth_c32 : bth_H 32 = aJ 20 (fun _ => 0) := rfl
theorem bth_c33 : bth_H 33 = aO 1 [.int 0, .int 0, .int 0, .ref 34] := rfl
theorem bth_c34 : bth_H 34 = aJ 20 (fun _ => 0) := rfl
theorem bth_c35 : bth_H 35 = aO 1 [.int 0, .int 0, .int 0, .ref 36] := rfl
theorem bth_c36 : bth_H 36 = aJ 20 (fun _ => 0) := rfl
theorem bth_c37 : bth_H 37 = aO 1 [.int 0, .int 0, .int 0, .ref 38] := rfl
theorem bth_c38 : bth_H 38 = aJ 20 (fun _ => 0) := rfl
theorem bth_c39 : bth_H 39 = aO 5 [.int 0, .ref 40, .ref 41, .ref 42, .ref 43, .ref 44, .int 50, .int 0, .int 0, .ref 45, .int 0, .int 0, .int 0, .ref 46, .ref 47, .ref 48, .ref 49, .ref 50, .long 0, .int 0, .int 0, .ref 51, .ref 52, .ref 53, .ref 54, .ref 55, .ref 56, .int 0, .ref 57, .ref 58, .ref 59, .ref 60] := rfl
theorem bth_c40 : bth_H 40 = aI 8 (fun _ => 0) := rfl
theorem bth_c41 : bth_H 41 = aI 8 (fun _ => 0) := rfl
theorem bth_c42 : bth_H 42 = aI 8 (fun _ => 0) := rfl
theorem bth_c43 : bth_H 43 = aI 8 (fun _ => 0) := rfl
theorem bth_c44 : bth_H 44 = aI 64 (fun _ => 0) := rfl
theorem bth_c45 : bth_H 45 = aI 100 (fun _ => 0) := rfl
theorem bth_c46 : bth_H 46 = aI 16 (fun _ => 0) := rfl
theorem bth_c47 : bth_H 47 = aI 64 (fun _ => 0) := rfl
theorem bth_c48 : bth_H 48 = aJ 64 (fun _ => 0) := rfl
theorem bth_c49 : bth_H 49 = aJ 8 (fun _ => 0) := rfl
theorem bth_c50 : bth_H 50 = aJ 8 (fun _ => 0) := rfl
theorem bth_c51 : bth_H 51 = aI 64 (fun _ => 0) := rfl
theorem bth_c52 : bth_H 52 = aI 8 (fun _ => 0) := rfl
theorem bth_c53 : bth_H 53 = aI 8 (fun _ => 0) := rfl
theorem bth_c54 : bth_H 54 = aJ 100 (fun _ => 0) := rfl
theorem bth_c55 : bth_H 55 = aJ 100 (fun _ => 0) := rfl
theorem bth_c56 : bth_H 56 = aI 99 (fun _ => 0) := rfl
theorem bth_c57 : bth_H 57 = aI 4 (upd (upd (upd (upd (fun _ => 0) 0 (-1)) 1 (-1)) 2 (-1)) 3 (-1)) := rfl
theorem bth_c58 : bth_H 58 = aI 4 (fun _ => 0) := rfl
theorem bth_c59 : bth_H 59 = aJ 80 (fun _ => 0) := rfl
theorem bth_c60 : bth_H 60 = aJ 20 (fun _ => 0) := rfl
theorem bth_Sh : Sh bth_H := fun q hq => match q, hq with
  | 0, _ => (⟨_, rfl⟩ : shp 0 (bth_H 0))
  | 1, _ => (⟨_, _, _, rfl⟩ : shp 1 (bth_H 1))
  | 2, _ => (⟨_, rfl⟩ : shp 2 (bth_H 2))
  | 3, _ => (⟨_, rfl⟩ : shp 3 (bth_H 3))
  | 4, _ => (⟨_, rfl⟩ : shp 4 (bth_H 4))
  | 5, _ => (⟨_, rfl⟩ : shp 5 (bth_H 5))
  | 6, _ => (⟨_, rfl⟩ : shp 6 (bth_H 6))
  | 7, _ => (⟨_, rfl⟩ : shp 7 (bth_H 7))
  | 8, _ => (⟨_, _, _, rfl⟩ : shp 8 (bth_H 8))
  | 9, _ => (⟨_, rfl⟩ : shp 9 (bth_H 9))
  | 10, _ => (⟨_, rfl⟩ : shp 10 (bth_H 10))
  | 11, _ => (⟨_, rfl⟩ : shp 11 (bth_H 11))
  | 12, _ => (⟨_, rfl⟩ : shp 12 (bth_H 12))
  | 13, _ => (⟨_, rfl⟩ : shp 13 (bth_H 13))
  | 14, _ => (⟨_, rfl⟩ : shp 14 (bth_H 14))
  | 15, _ => (⟨_, _, _, rfl⟩ : shp 15 (bth_H 15))
  | 16, _ => (⟨_, rfl⟩ : shp 16 (bth_H 16))
  | 17, _ => (⟨_, rfl⟩ : shp 17 (bth_H 17))
  | 18, _ => (⟨_, rfl⟩ : shp 18 (bth_H 18))
  | 19, _ => (⟨_, rfl⟩ : shp 19 (bth_H 19))
  | 20, _ => (⟨_, rfl⟩ : shp 20 (bth_H 20))
  | 21, _ => (⟨_, rfl⟩ : shp 21 (bth_H 21))
  | 22, _ => (⟨_, _, _, _, rfl⟩ : shp 22 (bth_H 22))
  | 23, _ => (⟨_, rfl⟩ : shp 23 (bth_H 23))
  | 24, _ => (⟨_, rfl⟩ : shp 24 (bth_H 24))
  | 25, _ => (⟨_, rfl⟩ : shp 25 (bth_H 25))
  | 26, _ => (⟨_, _, rfl⟩ : shp 26 (bth_H 26))
  | 27, _ => (⟨_, rfl⟩ : shp 27 (bth_H 27))
  | 28, _ => (rfl : shp 28 (bth_H 28))
  | 29, _ => (⟨_, rfl⟩ : shp 29 (bth_H 29))
  | 30, _ => (⟨_, rfl⟩ : shp 30 (bth_H 30))
  | 31, _ => (⟨_, _, _, rfl⟩ : shp 31 (bth_H 31))
  | 32, _ => (⟨_, rfl⟩ : shp 32 (bth_H 32))
  | 33, _ => (⟨_, _, _, rfl⟩ : shp 33 (bth_H 33))
  | 34, _ => (⟨_, rfl⟩ : shp 34 (bth_H 34))
  | 35, _ => (⟨_, _, _, rfl⟩ : shp 35 (bth_H 35))
  | 36, _ => (⟨_, rfl⟩ : shp 36 (bth_H 36))
  | 37, _ => (⟨_, _, _, rfl⟩ : shp 37 (bth_H 37))
  | 38, _ => (⟨_, rfl⟩ : shp 38 (bth_H 38))
  | 39, _ => (⟨_, _, _, _, _, _, _, _, _, _, _, rfl⟩ : shp 39 (bth_H 39))
  | 40, _ => (⟨_, rfl⟩ : shp 40 (bth_H 40))
  | 41, _ => (⟨_, rfl⟩ : shp 41 (bth_H 41))
  | 42, _ => (⟨_, rfl⟩ : shp 42 (bth_H 42))
  | 43, _ => (⟨_, rfl⟩ : shp 43 (bth_H 43))
  | 44, _ => (⟨_, rfl⟩ : shp 44 (bth_H 44))
  | 45, _ => (⟨_, rfl⟩ : shp 45 (bth_H 45))
  | 46, _ => (⟨_, rfl⟩ : shp 46 (bth_H 46))
  | 47, _ => (⟨_, rfl⟩ : shp 47 (bth_H 47))
  | 48, _ => (⟨_, rfl⟩ : shp 48 (bth_H 48))
  | 49, _ => (⟨_, rfl⟩ : shp 49 (bth_H 49))
  | 50, _ => (⟨_, rfl⟩ : shp 50 (bth_H 50))
  | 51, _ => (⟨_, rfl⟩ : shp 51 (bth_H 51))
  | 52, _ => (⟨_, rfl⟩ : shp 52 (bth_H 52))
  | 53, _ => (⟨_, rfl⟩ : shp 53 (bth_H 53))
  | 54, _ => (⟨_, rfl⟩ : shp 54 (bth_H 54))
  | 55, _ => (⟨_, rfl⟩ : shp 55 (bth_H 55))
  | 56, _ => (⟨_, rfl⟩ : shp 56 (bth_H 56))
  | 57, _ => (⟨_, rfl⟩ : shp 57 (bth_H 57))
  | 58, _ => (⟨_, rfl⟩ : shp 58 (bth_H 58))
  | 59, _ => (⟨_, rfl⟩ : shp 59 (bth_H 59))
  | 60, _ => (⟨_, rfl⟩ : shp 60 (bth_H 60))
  | n + 61, hq => absurd hq (by omega)
theorem bth_Rl : Rl 0 50 0 (fun _ => 0) (fun _ => 0) (fun _ => 0) (fun _ => 0) (fun _ => 0) (fun _ => 0) (fun _ => 0) (fun _ => 0) (fun _ => 0) (fun _ => 0) := by
  refine ⟨by omega, by decide, by decide, ?_, fun a h => absurd h (by omega), fun a c h => absurd h (by omega)⟩
  intro a c _ _
  exact ⟨(by decide : (0 : Int) ≤ (0 : Int32).toInt ∧ (0 : Int32).toInt ≤ 2), rfl, fun _ => rfl⟩
theorem bth_V1 : V1 bth_H := ⟨0, rfl, rfl, rfl, rfl, rfl, bth_Rl⟩
theorem bth_V2 : V2 bth_H := ⟨rfl, Or.inl rfl⟩
theorem bth_V3 : V3 bth_H := ⟨0, rfl, rfl, by omega, fun k h => absurd h (by omega)⟩
theorem bth_Vs {lns : Nat → Int32} {s : Nat} (h : lns s = -1) : Vs 0 0 0 (fun _ => 0) lns (fun _ => 0) (fun _ => 0) s := ⟨Or.inl ⟨rfl, h⟩, rfl, by decide, fun _ _ => rfl⟩
theorem bth_V4 : V4 bth_H := ⟨bth_Vs rfl, bth_Vs rfl, bth_Vs rfl, bth_Vs rfl⟩
theorem bth_RR : RR bth_H := ⟨bth_Sh, bth_V1, bth_V2, bth_V3, bth_V4⟩
theorem bth_HJ : HJ bth_H := by
  intro a ha
  show bth_L.getD a (aO 99 []) = aO 99 []
  rw [List.getD_eq_getElem?_getD, List.getElem?_eq_none (show bth_L.length ≤ a from ha)]
  rfl
theorem bth_LK : LK bth_H := ⟨bth_HJ 61 (Nat.le_refl _), ⟨_, rfl⟩, _, rfl⟩

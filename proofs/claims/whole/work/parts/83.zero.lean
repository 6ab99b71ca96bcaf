/-! the heap behind the two constructors, as an abstract heap -/
def zL : List AC := [aO 4 [.ref 1, .ref 8, .ref 15, .ref 22, .ref 26, .ref 28, .ref 29, .ref 30, .int 0], aO 3 [.int 0, .ref 2, .ref 3, .ref 4, .ref 5, .ref 6, .int 50, .int 0, .ref 7], aI 8 (fun _ => 0), aI 8 (fun _ => 0), aI 8 (fun _ => 0), aI 8 (fun _ => 0), aI 64 (fun _ => 0), aI 8 (fun _ => 0), aO 3 [.int 0, .ref 9, .ref 10, .ref 11, .ref 12, .ref 13, .int 50, .int 0, .ref 14], aI 8 (fun _ => 0), aI 8 (fun _ => 0), aI 8 (fun _ => 0), aI 8 (fun _ => 0), aI 64 (fun _ => 0), aI 8 (fun _ => 0), aO 3 [.int 0, .ref 16, .ref 17, .ref 18, .ref 19, .ref 20, .int 50, .int 0, .ref 21], aI 8 (fun _ => 0), aI 8 (fun _ => 0), aI 8 (fun _ => 0), aI 8 (fun _ => 0), aI 64 (fun _ => 0), aI 8 (fun _ => 0), aO 0 [.ref 23, .long 1, .int 0, .int 0, .int 0, .ref 24, .ref 25], aJ 8 (fun _ => 0), aI 8 (fun _ => 0), aJ 72 (fun _ => 0), aO 2 [.ref 27, .int 0, .int 0], aB 100 (fun _ => 0), aR 4 shR, aJ 100 (fun _ => 0), aJ 100 (fun _ => 0), aO 1 [.int 0, .int 0, .int 0, .ref 32], aJ 20 (fun _ => 0), aO 1 [.int 0, .int 0, .int 0, .ref 34], aJ 20 (fun _ => 0), aO 1 [.int 0, .int 0, .int 0, .ref 36], aJ 20 (fun _ => 0), aO 1 [.int 0, .int 0, .int 0, .ref 38], aJ 20 (fun _ => 0), aO 5 [.int 0, .ref 40, .ref 41, .ref 42, .ref 43, .ref 44, .int 50, .int 0, .int 0, .ref 45, .int 0, .int 0, .int 0, .ref 46, .ref 47, .ref 48, .ref 49, .ref 50, .long 0, .int 0, .int 0, .ref 51, .ref 52, .ref 53, .ref 54, .ref 55, .ref 56, .int 0, .ref 57, .ref 58, .ref 59, .ref 60], aI 8 (fun _ => 0), aI 8 (fun _ => 0), aI 8 (fun _ => 0), aI 8 (fun _ => 0), aI 64 (fun _ => 0), aI 100 (fun _ => 0), aI 16 (fun _ => 0), aI 64 (fun _ => 0), aJ 64 (fun _ => 0), aJ 8 (fun _ => 0), aJ 8 (fun _ => 0), aI 64 (fun _ => 0), aI 8 (fun _ => 0), aI 8 (fun _ => 0), aJ 100 (fun _ => 0), aJ 100 (fun _ => 0), aI 99 (fun _ => 0), aI 4 (upd (upd (upd (upd (fun _ => 0) 0 (-1)) 1 (-1)) 2 (-1)) 3 (-1)), aI 4 (fun _ => 0), aJ 80 (fun _ => 0), aJ 20 (fun _ => 0)]
def zH : AH := fun i => zL.getD i (aO 99 [])
theorem zc0 : zH 0 = aO 4 [.ref 1, .ref 8, .ref 15, .ref 22, .ref 26, .ref 28, .ref 29, .ref 30, .int 0] := rfl
theorem zc1 : zH 1 = aO 3 [.int 0, .ref 2, .ref 3, .ref 4, .ref 5, .ref 6, .int 50, .int 0, .ref 7] := rfl
theorem zc2 : zH 2 = aI 8 (fun _ => 0) := rfl
theorem zc3 : zH 3 = aI 8 (fun _ => 0) := rfl
theorem zc4 : zH 4 = aI 8 (fun _ => 0) := rfl
theorem zc5 : zH 5 = aI 8 (fun _ => 0) := rfl
theorem zc6 : zH 6 = aI 64 (fun _ => 0) := rfl
theorem zc7 : zH 7 = aI 8 (fun _ => 0) := rfl
theorem zc8 : zH 8 = aO 3 [.int 0, .ref 9, .ref 10, .ref 11, .ref 12, .ref 13, .int 50, .int 0, .ref 14] := rfl
theorem zc9 : zH 9 = aI 8 (fun _ => 0) := rfl
theorem zc10 : zH 10 = aI 8 (fun _ => 0) := rfl
theorem zc11 : zH 11 = aI 8 (fun _ => 0) := rfl
theorem zc12 : zH 12 = aI 8 (fun _ => 0) := rfl
theorem zc13 : zH 13 = aI 64 (fun _ => 0) := rfl
theorem zc14 : zH 14 = aI 8 (fun _ => 0) := rfl
theorem zc15 : zH 15 = aO 3 [.int 0, .ref 16, .ref 17, .ref 18, .ref 19, .ref 20, .int 50, .int 0, .ref 21] := rfl
theorem zc16 : zH 16 = aI 8 (fun _ => 0) := rfl
theorem zc17 : zH 17 = aI 8 (fun _ => 0) := rfl
theorem zc18 : zH 18 = aI 8 (fun _ => 0) := rfl
theorem zc19 : zH 19 = aI 8 (fun _ => 0) := rfl
theorem zc20 : zH 20 = aI 64 (fun _ => 0) := rfl
theorem zc21 : zH 21 = aI 8 (fun _ => 0) := rfl
theorem zc22 : zH 22 = aO 0 [.ref 23, .long 1, .int 0, .int 0, .int 0, .ref 24, .ref 25] := rfl
theorem zc23 : zH 23 = aJ 8 (fun _ => 0) := rfl
theorem zc24 : zH 24 = aI 8 (fun _ => 0) := rfl
theorem zc25 : zH 25 = aJ 72 (fun _ => 0) := rfl
theorem zc26 : zH 26 = aO 2 [.ref 27, .int 0, .int 0] := rfl
theorem zc27 : zH 27 = aB 100 (fun _ => 0) := rfl
theorem zc28 : zH 28 = aR 4 shR := rfl
theorem zc29 : zH 29 = aJ 100 (fun _ => 0) := rfl
theorem zc30 : zH 30 = aJ 100 (fun _ => 0) := rfl
theorem zc31 : zH 31 = aO 1 [.int 0, .int 0, .int 0, .ref 32] := rfl
theorem zc32 : zH 32 = aJ 20 (fun _ => 0) := rfl
theorem zc33 : zH 33 = aO 1 [.int 0, .int 0, .int 0, .ref 34] := rfl
theorem zc34 : zH 34 = aJ 20 (fun _ => 0) := rfl
theorem zc35 : zH 35 = aO 1 [.int 0, .int 0, .int 0, .ref 36] := rfl
theorem zc36 : zH 36 = aJ 20 (fun _ => 0) := rfl
theorem zc37 : zH 37 = aO 1 [.int 0, .int 0, .int 0, .ref 38] := rfl
theorem zc38 : zH 38 = aJ 20 (fun _ => 0) := rfl
theorem zc39 : zH 39 = aO 5 [.int 0, .ref 40, .ref 41, .ref 42, .ref 43, .ref 44, .int 50, .int 0, .int 0, .ref 45, .int 0, .int 0, .int 0, .ref 46, .ref 47, .ref 48, .ref 49, .ref 50, .long 0, .int 0, .int 0, .ref 51, .ref 52, .ref 53, .ref 54, .ref 55, .ref 56, .int 0, .ref 57, .ref 58, .ref 59, .ref 60] := rfl
theorem zc40 : zH 40 = aI 8 (fun _ => 0) := rfl
theorem zc41 : zH 41 = aI 8 (fun _ => 0) := rfl
theorem zc42 : zH 42 = aI 8 (fun _ => 0) := rfl
theorem zc43 : zH 43 = aI 8 (fun _ => 0) := rfl
theorem zc44 : zH 44 = aI 64 (fun _ => 0) := rfl
theorem zc45 : zH 45 = aI 100 (fun _ => 0) := rfl
theorem zc46 : zH 46 = aI 16 (fun _ => 0) := rfl
theorem zc47 : zH 47 = aI 64 (fun _ => 0) := rfl
theorem zc48 : zH 48 = aJ 64 (fun _ => 0) := rfl
theorem zc49 : zH 49 = aJ 8 (fun _ => 0) := rfl
theorem zc50 : zH 50 = aJ 8 (fun _ => 0) := rfl
theorem zc51 : zH 51 = aI 64 (fun _ => 0) := rfl
theorem zc52 : zH 52 = aI 8 (fun _ => 0) := rfl
theorem zc53 : zH 53 = aI 8 (fun _ => 0) := rfl
theorem zc54 : zH 54 = aJ 100 (fun _ => 0) := rfl
theorem zc55 : zH 55 = aJ 100 (fun _ => 0) := rfl
theorem zc56 : zH 56 = aI 99 (fun _ => 0) := rfl
theorem zc57 : zH 57 = aI 4 (upd (upd (upd (upd (fun _ => 0) 0 (-1)) 1 (-1)) 2 (-1)) 3 (-1)) := rfl
theorem zc58 : zH 58 = aI 4 (fun _ => 0) := rfl
theorem zc59 : zH 59 = aJ 80 (fun _ => 0) := rfl
theorem zc60 : zH 60 = aJ 20 (fun _ => 0) := rfl
theorem zSh : Sh zH := fun q hq => match q, hq with
  | 0, _ => (⟨_, rfl⟩ : shp 0 (zH 0))
  | 1, _ => (⟨_, _, _, rfl⟩ : shp 1 (zH 1))
  | 2, _ => (⟨_, rfl⟩ : shp 2 (zH 2))
  | 3, _ => (⟨_, rfl⟩ : shp 3 (zH 3))
  | 4, _ => (⟨_, rfl⟩ : shp 4 (zH 4))
  | 5, _ => (⟨_, rfl⟩ : shp 5 (zH 5))
  | 6, _ => (⟨_, rfl⟩ : shp 6 (zH 6))
  | 7, _ => (⟨_, rfl⟩ : shp 7 (zH 7))
  | 8, _ => (⟨_, _, _, rfl⟩ : shp 8 (zH 8))
  | 9, _ => (⟨_, rfl⟩ : shp 9 (zH 9))
  | 10, _ => (⟨_, rfl⟩ : shp 10 (zH 10))
  | 11, _ => (⟨_, rfl⟩ : shp 11 (zH 11))
  | 12, _ => (⟨_, rfl⟩ : shp 12 (zH 12))
  | 13, _ => (⟨_, rfl⟩ : shp 13 (zH 13))
  | 14, _ => (⟨_, rfl⟩ : shp 14 (zH 14))
  | 15, _ => (⟨_, _, _, rfl⟩ : shp 15 (zH 15))
  | 16, _ => (⟨_, rfl⟩ : shp 16 (zH 16))
  | 17, _ => (⟨_, rfl⟩ : shp 17 (zH 17))
  | 18, _ => (⟨_, rfl⟩ : shp 18 (zH 18))
  | 19, _ => (⟨_, rfl⟩ : shp 19 (zH 19))
  | 20, _ => (⟨_, rfl⟩ : shp 20 (zH 20))
  | 21, _ => (⟨_, rfl⟩ : shp 21 (zH 21))
  | 22, _ => (⟨_, _, _, _, rfl⟩ : shp 22 (zH 22))
  | 23, _ => (⟨_, rfl⟩ : shp 23 (zH 23))
  | 24, _ => (⟨_, rfl⟩ : shp 24 (zH 24))
  | 25, _ => (⟨_, rfl⟩ : shp 25 (zH 25))
  | 26, _ => (⟨_, _, rfl⟩ : shp 26 (zH 26))
  | 27, _ => (⟨_, rfl⟩ : shp 27 (zH 27))
  | 28, _ => (rfl : shp 28 (zH 28))
  | 29, _ => (⟨_, rfl⟩ : shp 29 (zH 29))
  | 30, _ => (⟨_, rfl⟩ : shp 30 (zH 30))
  | 31, _ => (⟨_, _, _, rfl⟩ : shp 31 (zH 31))
  | 32, _ => (⟨_, rfl⟩ : shp 32 (zH 32))
  | 33, _ => (⟨_, _, _, rfl⟩ : shp 33 (zH 33))
  | 34, _ => (⟨_, rfl⟩ : shp 34 (zH 34))
  | 35, _ => (⟨_, _, _, rfl⟩ : shp 35 (zH 35))
  | 36, _ => (⟨_, rfl⟩ : shp 36 (zH 36))
  | 37, _ => (⟨_, _, _, rfl⟩ : shp 37 (zH 37))
  | 38, _ => (⟨_, rfl⟩ : shp 38 (zH 38))
  | 39, _ => (⟨_, _, _, _, _, _, _, _, _, _, _, rfl⟩ : shp 39 (zH 39))
  | 40, _ => (⟨_, rfl⟩ : shp 40 (zH 40))
  | 41, _ => (⟨_, rfl⟩ : shp 41 (zH 41))
  | 42, _ => (⟨_, rfl⟩ : shp 42 (zH 42))
  | 43, _ => (⟨_, rfl⟩ : shp 43 (zH 43))
  | 44, _ => (⟨_, rfl⟩ : shp 44 (zH 44))
  | 45, _ => (⟨_, rfl⟩ : shp 45 (zH 45))
  | 46, _ => (⟨_, rfl⟩ : shp 46 (zH 46))
  | 47, _ => (⟨_, rfl⟩ : shp 47 (zH 47))
  | 48, _ => (⟨_, rfl⟩ : shp 48 (zH 48))
  | 49, _ => (⟨_, rfl⟩ : shp 49 (zH 49))
  | 50, _ => (⟨_, rfl⟩ : shp 50 (zH 50))
  | 51, _ => (⟨_, rfl⟩ : shp 51 (zH 51))
  | 52, _ => (⟨_, rfl⟩ : shp 52 (zH 52))
  | 53, _ => (⟨_, rfl⟩ : shp 53 (zH 53))
  | 54, _ => (⟨_, rfl⟩ : shp 54 (zH 54))
  | 55, _ => (⟨_, rfl⟩ : shp 55 (zH 55))
  | 56, _ => (⟨_, rfl⟩ : shp 56 (zH 56))
  | 57, _ => (⟨_, rfl⟩ : shp 57 (zH 57))
  | 58, _ => (⟨_, rfl⟩ : shp 58 (zH 58))
  | 59, _ => (⟨_, rfl⟩ : shp 59 (zH 59))
  | 60, _ => (⟨_, rfl⟩ : shp 60 (zH 60))
  | n + 61, hq => absurd hq (by omega)
theorem zRl : Rl 0 50 0 (fun _ => 0) (fun _ => 0) (fun _ => 0) (fun _ => 0) (fun _ => 0) (fun _ => 0) (fun _ => 0) (fun _ => 0) (fun _ => 0) (fun _ => 0) := by
  refine ⟨by omega, by decide, by decide, ?_, fun a h => absurd h (by omega), fun a c h => absurd h (by omega)⟩
  intro a c _ _
  exact ⟨by decide, rfl, fun _ => rfl⟩
theorem zV1 : V1 zH := ⟨0, rfl, rfl, rfl, rfl, rfl, zRl⟩
theorem zV2 : V2 zH := ⟨rfl, Or.inl rfl⟩
theorem zV3 : V3 zH := ⟨0, rfl, rfl, by omega, fun k h => absurd h (by omega)⟩
theorem zVs {lns : Nat → Int32} {s : Nat} (h : lns s = -1) : Vs 0 0 0 (fun _ => 0) lns (fun _ => 0) (fun _ => 0) s := ⟨Or.inl ⟨rfl, h⟩, rfl, by decide, fun _ _ => rfl⟩
theorem zV4 : V4 zH := ⟨zVs rfl, zVs rfl, zVs rfl, zVs rfl⟩
theorem zRR : RR zH := ⟨zSh, zV1, zV2, zV3, zV4⟩
theorem zHJ : HJ zH := by
  intro a ha
  show zL.getD a (aO 99 []) = aO 99 []
  rw [List.getD_eq_getElem?_getD, List.getElem?_eq_none (show zL.length ≤ a from ha)]
  rfl
theorem zLK : LK zH := ⟨zHJ 61 (Nat.le_refl _), ⟨_, rfl⟩, _, rfl⟩

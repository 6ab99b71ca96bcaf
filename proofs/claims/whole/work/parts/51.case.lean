/-! the relation, cell by cell, for a goal -/
theorem RR_case {h : AH} {P : Prop} (hR : RR h) (K : ∀ (m : Nat) (l : Nat) (ik : Int32) (pu : Int32) (ye : Int32) (ki : (Nat → Int32)) (as : (Nat → Int32)) (ow : (Nat → Int32)) (ca : (Nat → Int32)) (sh : (Nat → Int32)) (ah : (Nat → Int32)) (n2 : Int32) (pu2 : Int32) (ye2 : Int32) (ki2 : (Nat → Int32)) (as2 : (Nat → Int32)) (ow2 : (Nat → Int32)) (ca2 : (Nat → Int32)) (sh2 : (Nat → Int32)) (ah2 : (Nat → Int32)) (n3 : Int32) (pu3 : Int32) (ye3 : Int32) (ki3 : (Nat → Int32)) (as3 : (Nat → Int32)) (ow3 : (Nat → Int32)) (ca3 : (Nat → Int32)) (sh3 : (Nat → Int32)) (ah3 : (Nat → Int32)) (be : Int64) (re : Int32) (op : Int32) (sz : Int32) (ab : (Nat → Int64)) (ak : (Nat → Int32)) (ro : (Nat → Int64)) (pt : Int32) (bt : (Nat → Int32)) (fi : (Nat → Int64)) (si : (Nat → Int64)) (th0 : Int32) (la0 : Int32) (le0 : Int32) (it0 : (Nat → Int64)) (th1 : Int32) (la1 : Int32) (le1 : Int32) (it1 : (Nat → Int64)) (th2 : Int32) (la2 : Int32) (le2 : Int32) (it2 : (Nat → Int64)) (th3 : Int32) (la3 : Int32) (le3 : Int32) (it3 : (Nat → Int64)) (ax : Int32) (wr : Int32) (bm : Int64) (kn : Int32) (pr : Int32) (kiM : (Nat → Int32)) (asM : (Nat → Int32)) (owM : (Nat → Int32)) (caM : (Nat → Int32)) (shM : (Nat → Int32)) (tp : (Nat → Int32)) (rd : (Nat → Int32)) (rs : (Nat → Int32)) (rw : (Nat → Int64)) (su : (Nat → Int64)) (abM : (Nat → Int64)) (kp : (Nat → Int32)) (tn : (Nat → Int32)) (td : (Nat → Int32)) (fs : (Nat → Int64)) (ss : (Nat → Int64)) (ig : (Nat → Int32)) (lns : (Nat → Int32)) (szs : (Nat → Int32)) (its : (Nat → Int64)) (mv : (Nat → Int64)), (h 0 = aO 4 [.ref 1, .ref 8, .ref 15, .ref 22, .ref 26, .ref 28, .ref 29, .ref 30, .int ik]) → (h 1 = tO 1 (nI m) pu ye) → (h 2 = aI 8 ki) → (h 3 = aI 8 as) → (h 4 = aI 8 ow) → (h 5 = aI 8 ca) → (h 6 = aI 64 sh) → (h 7 = aI 8 ah) → (h 8 = tO 8 n2 pu2 ye2) → (h 9 = aI 8 ki2) → (h 10 = aI 8 as2) → (h 11 = aI 8 ow2) → (h 12 = aI 8 ca2) → (h 13 = aI 64 sh2) → (h 14 = aI 8 ah2) → (h 15 = tO 15 n3 pu3 ye3) → (h 16 = aI 8 ki3) → (h 17 = aI 8 as3) → (h 18 = aI 8 ow3) → (h 19 = aI 8 ca3) → (h 20 = aI 64 sh3) → (h 21 = aI 8 ah3) → (h 22 = rO be re op sz) → (h 23 = aJ 8 ab) → (h 24 = aI 8 ak) → (h 25 = aJ 72 ro) → (h 26 = aO 2 [.ref 27, .int (nI l), .int pt]) → (h 27 = aB 100 bt) → (h 28 = aR 4 shR) → (h 29 = aJ 100 fi) → (h 30 = aJ 100 si) → (h 31 = aO 1 [.int th0, .int la0, .int le0, .ref 32]) → (h 32 = aJ 20 it0) → (h 33 = aO 1 [.int th1, .int la1, .int le1, .ref 34]) → (h 34 = aJ 20 it1) → (h 35 = aO 1 [.int th2, .int la2, .int le2, .ref 36]) → (h 36 = aJ 20 it2) → (h 37 = aO 1 [.int th3, .int la3, .int le3, .ref 38]) → (h 38 = aJ 20 it3) → (h 39 = mO (nI m) pu ye (nI 0) (nI l) ax wr bm kn pr ik) → (h 40 = aI 8 kiM) → (h 41 = aI 8 asM) → (h 42 = aI 8 owM) → (h 43 = aI 8 caM) → (h 44 = aI 64 shM) → (h 45 = aI 100 tp) → (h 46 = aI 16 rd) → (h 47 = aI 64 rs) → (h 48 = aJ 64 rw) → (h 49 = aJ 8 su) → (h 50 = aJ 8 abM) → (h 51 = aI 64 kp) → (h 52 = aI 8 tn) → (h 53 = aI 8 td) → (h 54 = aJ 100 fs) → (h 55 = aJ 100 ss) → (h 56 = aI 99 ig) → (h 57 = aI 4 lns) → (h 58 = aI 4 szs) → (h 59 = aJ 80 its) → (h 60 = aJ 20 mv) → Rl m pu ye ki as ow ca sh kiM asM owM caM shM → Tp l bt tp → P) : P := by
  obtain ⟨hS, ⟨m, e1, e2, e3, e4, e5, e6⟩, ⟨f1, -⟩, ⟨l, g1, g2, g3⟩, -⟩ := hR
  obtain ⟨ik, c0⟩ : ∃ (ik : Int32), h 0 = aO 4 [.ref 1, .ref 8, .ref 15, .ref 22, .ref 26, .ref 28, .ref 29, .ref 30, .int ik] := hS 0 (by decide)
  obtain ⟨n, pu, ye, c1⟩ : ∃ (n : Int32) (pu : Int32) (ye : Int32), h 1 = tO 1 n pu ye := hS 1 (by decide)
  obtain ⟨ki, c2⟩ : ∃ (ki : (Nat → Int32)), h 2 = aI 8 ki := hS 2 (by decide)
  obtain ⟨as, c3⟩ : ∃ (as : (Nat → Int32)), h 3 = aI 8 as := hS 3 (by decide)
  obtain ⟨ow, c4⟩ : ∃ (ow : (Nat → Int32)), h 4 = aI 8 ow := hS 4 (by decide)
  obtain ⟨ca, c5⟩ : ∃ (ca : (Nat → Int32)), h 5 = aI 8 ca := hS 5 (by decide)
  obtain ⟨sh, c6⟩ : ∃ (sh : (Nat → Int32)), h 6 = aI 64 sh := hS 6 (by decide)
  obtain ⟨ah, c7⟩ : ∃ (ah : (Nat → Int32)), h 7 = aI 8 ah := hS 7 (by decide)
  obtain ⟨n2, pu2, ye2, c8⟩ : ∃ (n2 : Int32) (pu2 : Int32) (ye2 : Int32), h 8 = tO 8 n2 pu2 ye2 := hS 8 (by decide)
  obtain ⟨ki2, c9⟩ : ∃ (ki2 : (Nat → Int32)), h 9 = aI 8 ki2 := hS 9 (by decide)
  obtain ⟨as2, c10⟩ : ∃ (as2 : (Nat → Int32)), h 10 = aI 8 as2 := hS 10 (by decide)
  obtain ⟨ow2, c11⟩ : ∃ (ow2 : (Nat → Int32)), h 11 = aI 8 ow2 := hS 11 (by decide)
  obtain ⟨ca2, c12⟩ : ∃ (ca2 : (Nat → Int32)), h 12 = aI 8 ca2 := hS 12 (by decide)
  obtain ⟨sh2, c13⟩ : ∃ (sh2 : (Nat → Int32)), h 13 = aI 64 sh2 := hS 13 (by decide)
  obtain ⟨ah2, c14⟩ : ∃ (ah2 : (Nat → Int32)), h 14 = aI 8 ah2 := hS 14 (by decide)
  obtain ⟨n3, pu3, ye3, c15⟩ : ∃ (n3 : Int32) (pu3 : Int32) (ye3 : Int32), h 15 = tO 15 n3 pu3 ye3 := hS 15 (by decide)
  obtain ⟨ki3, c16⟩ : ∃ (ki3 : (Nat → Int32)), h 16 = aI 8 ki3 := hS 16 (by decide)
  obtain ⟨as3, c17⟩ : ∃ (as3 : (Nat → Int32)), h 17 = aI 8 as3 := hS 17 (by decide)
  obtain ⟨ow3, c18⟩ : ∃ (ow3 : (Nat → Int32)), h 18 = aI 8 ow3 := hS 18 (by decide)
  obtain ⟨ca3, c19⟩ : ∃ (ca3 : (Nat → Int32)), h 19 = aI 8 ca3 := hS 19 (by decide)
  obtain ⟨sh3, c20⟩ : ∃ (sh3 : (Nat → Int32)), h 20 = aI 64 sh3 := hS 20 (by decide)
  obtain ⟨ah3, c21⟩ : ∃ (ah3 : (Nat → Int32)), h 21 = aI 8 ah3 := hS 21 (by decide)
  obtain ⟨be, re, op, sz, c22⟩ : ∃ (be : Int64) (re : Int32) (op : Int32) (sz : Int32), h 22 = rO be re op sz := hS 22 (by decide)
  obtain ⟨ab, c23⟩ : ∃ (ab : (Nat → Int64)), h 23 = aJ 8 ab := hS 23 (by decide)
  obtain ⟨ak, c24⟩ : ∃ (ak : (Nat → Int32)), h 24 = aI 8 ak := hS 24 (by decide)
  obtain ⟨ro, c25⟩ : ∃ (ro : (Nat → Int64)), h 25 = aJ 72 ro := hS 25 (by decide)
  obtain ⟨ln, pt, c26⟩ : ∃ (ln : Int32) (pt : Int32), h 26 = aO 2 [.ref 27, .int ln, .int pt] := hS 26 (by decide)
  obtain ⟨bt, c27⟩ : ∃ (bt : (Nat → Int32)), h 27 = aB 100 bt := hS 27 (by decide)
  obtain c28 : h 28 = aR 4 shR := hS 28 (by decide)
  obtain ⟨fi, c29⟩ : ∃ (fi : (Nat → Int64)), h 29 = aJ 100 fi := hS 29 (by decide)
  obtain ⟨si, c30⟩ : ∃ (si : (Nat → Int64)), h 30 = aJ 100 si := hS 30 (by decide)
  obtain ⟨th0, la0, le0, c31⟩ : ∃ (th0 : Int32) (la0 : Int32) (le0 : Int32), h 31 = aO 1 [.int th0, .int la0, .int le0, .ref 32] := hS 31 (by decide)
  obtain ⟨it0, c32⟩ : ∃ (it0 : (Nat → Int64)), h 32 = aJ 20 it0 := hS 32 (by decide)
  obtain ⟨th1, la1, le1, c33⟩ : ∃ (th1 : Int32) (la1 : Int32) (le1 : Int32), h 33 = aO 1 [.int th1, .int la1, .int le1, .ref 34] := hS 33 (by decide)
  obtain ⟨it1, c34⟩ : ∃ (it1 : (Nat → Int64)), h 34 = aJ 20 it1 := hS 34 (by decide)
  obtain ⟨th2, la2, le2, c35⟩ : ∃ (th2 : Int32) (la2 : Int32) (le2 : Int32), h 35 = aO 1 [.int th2, .int la2, .int le2, .ref 36] := hS 35 (by decide)
  obtain ⟨it2, c36⟩ : ∃ (it2 : (Nat → Int64)), h 36 = aJ 20 it2 := hS 36 (by decide)
  obtain ⟨th3, la3, le3, c37⟩ : ∃ (th3 : Int32) (la3 : Int32) (le3 : Int32), h 37 = aO 1 [.int th3, .int la3, .int le3, .ref 38] := hS 37 (by decide)
  obtain ⟨it3, c38⟩ : ∃ (it3 : (Nat → Int64)), h 38 = aJ 20 it3 := hS 38 (by decide)
  obtain ⟨ho, puM, yeM, bo, ta, ax, wr, bm, kn, pr, im, c39⟩ : ∃ (ho : Int32) (puM : Int32) (yeM : Int32) (bo : Int32) (ta : Int32) (ax : Int32) (wr : Int32) (bm : Int64) (kn : Int32) (pr : Int32) (im : Int32), h 39 = mO ho puM yeM bo ta ax wr bm kn pr im := hS 39 (by decide)
  obtain ⟨kiM, c40⟩ : ∃ (kiM : (Nat → Int32)), h 40 = aI 8 kiM := hS 40 (by decide)
  obtain ⟨asM, c41⟩ : ∃ (asM : (Nat → Int32)), h 41 = aI 8 asM := hS 41 (by decide)
  obtain ⟨owM, c42⟩ : ∃ (owM : (Nat → Int32)), h 42 = aI 8 owM := hS 42 (by decide)
  obtain ⟨caM, c43⟩ : ∃ (caM : (Nat → Int32)), h 43 = aI 8 caM := hS 43 (by decide)
  obtain ⟨shM, c44⟩ : ∃ (shM : (Nat → Int32)), h 44 = aI 64 shM := hS 44 (by decide)
  obtain ⟨tp, c45⟩ : ∃ (tp : (Nat → Int32)), h 45 = aI 100 tp := hS 45 (by decide)
  obtain ⟨rd, c46⟩ : ∃ (rd : (Nat → Int32)), h 46 = aI 16 rd := hS 46 (by decide)
  obtain ⟨rs, c47⟩ : ∃ (rs : (Nat → Int32)), h 47 = aI 64 rs := hS 47 (by decide)
  obtain ⟨rw, c48⟩ : ∃ (rw : (Nat → Int64)), h 48 = aJ 64 rw := hS 48 (by decide)
  obtain ⟨su, c49⟩ : ∃ (su : (Nat → Int64)), h 49 = aJ 8 su := hS 49 (by decide)
  obtain ⟨abM, c50⟩ : ∃ (abM : (Nat → Int64)), h 50 = aJ 8 abM := hS 50 (by decide)
  obtain ⟨kp, c51⟩ : ∃ (kp : (Nat → Int32)), h 51 = aI 64 kp := hS 51 (by decide)
  obtain ⟨tn, c52⟩ : ∃ (tn : (Nat → Int32)), h 52 = aI 8 tn := hS 52 (by decide)
  obtain ⟨td, c53⟩ : ∃ (td : (Nat → Int32)), h 53 = aI 8 td := hS 53 (by decide)
  obtain ⟨fs, c54⟩ : ∃ (fs : (Nat → Int64)), h 54 = aJ 100 fs := hS 54 (by decide)
  obtain ⟨ss, c55⟩ : ∃ (ss : (Nat → Int64)), h 55 = aJ 100 ss := hS 55 (by decide)
  obtain ⟨ig, c56⟩ : ∃ (ig : (Nat → Int32)), h 56 = aI 99 ig := hS 56 (by decide)
  obtain ⟨lns, c57⟩ : ∃ (lns : (Nat → Int32)), h 57 = aI 4 lns := hS 57 (by decide)
  obtain ⟨szs, c58⟩ : ∃ (szs : (Nat → Int32)), h 58 = aI 4 szs := hS 58 (by decide)
  obtain ⟨its, c59⟩ : ∃ (its : (Nat → Int64)), h 59 = aJ 80 its := hS 59 (by decide)
  obtain ⟨mv, c60⟩ : ∃ (mv : (Nat → Int64)), h 60 = aJ 20 mv := hS 60 (by decide)
  rw [c1] at e1 e3 e4 e6
  rw [c39] at e2 e3 e4 e5 f1 g2
  rw [c0] at f1
  rw [c2, c3, c4, c5, c6, c40, c41, c42, c43, c44] at e6
  rw [c26] at g1
  rw [c27, c45] at g3
  have e1 : n = nI m := e1
  have e2 : ho = nI m := e2
  have e3 : puM = pu := e3
  have e4 : yeM = ye := e4
  have e5 : bo = nI 0 := e5
  have f1 : im = ik := f1
  have g1 : ln = nI l := g1
  have g2 : ta = nI l := g2
  have e6 : Rl m pu ye ki as ow ca sh kiM asM owM caM shM := e6
  have g3 : Tp l bt tp := g3
  subst e1 e2 e3 e4 e5 f1 g1 g2
  exact K _ _ _ _ _ _ _ _ _ _ _ _ _ _ _ _ _ _ _ _ _ _ _ _ _ _ _ _ _ _ _ _ _ _ _ _ _ _ _ _ _ _ _ _ _ _ _ _ _ _ _ _ _ _ _ _ _ _ _ _ _ _ _ _ _ _ _ _ _ _ _ _ _ _ _ _ _ _ _ _ _ _ c0 c1 c2 c3 c4 c5 c6 c7 c8 c9 c10 c11 c12 c13 c14 c15 c16 c17 c18 c19 c20 c21 c22 c23 c24 c25 c26 c27 c28 c29 c30 c31 c32 c33 c34 c35 c36 c37 c38 c39 c40 c41 c42 c43 c44 c45 c46 c47 c48 c49 c50 c51 c52 c53 c54 c55 c56 c57 c58 c59 c60 e6 g3

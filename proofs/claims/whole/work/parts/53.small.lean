theorem T_out1 {h : AH} (hR : RR h) : True := by
  have hR0 := hR
  obtain ⟨hS, hV1, hV2, hV3, hV4⟩ := hR
  refine RR_case hR0 ?_
  intro m l ik pu ye ki as ow ca sh ah n2 pu2 ye2 ki2 as2 ow2 ca2 sh2 ah2 n3 pu3 ye3 ki3 as3 ow3 ca3 sh3 ah3 be re op sz ab ak ro pt bt fi si th0 la0 le0 it0 th1 la1 le1 it1 th2 la2 le2 it2 th3 la3 le3 it3 ax wr bm kn pr kiM asM owM caM shM tp rd rs rw su abM kp tn td fs ss ig lns szs its mv c0 c1 c2 c3 c4 c5 c6 c7 c8 c9 c10 c11 c12 c13 c14 c15 c16 c17 c18 c19 c20 c21 c22 c23 c24 c25 c26 c27 c28 c29 c30 c31 c32 c33 c34 c35 c36 c37 c38 c39 c40 c41 c42 c43 c44 c45 c46 c47 c48 c49 c50 c51 c52 c53 c54 c55 c56 c57 c58 c59 c60 hRl hTp
  trivial

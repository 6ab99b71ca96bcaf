/-! each block of the code tables is what the class files decode to -/
theorem ok_0 : jt_0.all (fun q => okC 0 q.1 q.2) = true := by decide +kernel
theorem ok_1 : jt_1.all (fun q => okC 1 q.1 q.2) = true := by decide +kernel
theorem ok_2 : jt_2.all (fun q => okC 2 q.1 q.2) = true := by decide +kernel
theorem ok_3 : jt_3.all (fun q => okC 3 q.1 q.2) = true := by decide +kernel
theorem ok_4 : jt_4.all (fun q => okC 4 q.1 q.2) = true := by decide +kernel
theorem ok_5 : jt_5.all (fun q => okC 5 q.1 q.2) = true := by decide +kernel
theorem ok_6 : jt_6.all (fun q => okC 6 q.1 q.2) = true := by decide +kernel
theorem ok_7 : jt_7.all (fun q => okC 7 q.1 q.2) = true := by decide +kernel
theorem ok_8 : jt_8.all (fun q => okC 8 q.1 q.2) = true := by decide +kernel
theorem ok_9 : jt_9.all (fun q => okC 9 q.1 q.2) = true := by decide +kernel
theorem ok_10 : jt_10.all (fun q => okC 10 q.1 q.2) = true := by decide +kernel
theorem ok_11 : jt_11.all (fun q => okC 11 q.1 q.2) = true := by decide +kernel
theorem ok_12 : jt_12.all (fun q => okC 12 q.1 q.2) = true := by decide +kernel
theorem ok_13 : jt_13.all (fun q => okC 13 q.1 q.2) = true := by decide +kernel
theorem ok_14 : jt_14.all (fun q => okC 14 q.1 q.2) = true := by decide +kernel
theorem ok_15 : jt_15.all (fun q => okC 15 q.1 q.2) = true := by decide +kernel
theorem ok_16 : jt_16.all (fun q => okC 16 q.1 q.2) = true := by decide +kernel
theorem ok_17 : jt_17.all (fun q => okC 17 q.1 q.2) = true := by decide +kernel
theorem ok_18 : jt_18.all (fun q => okC 18 q.1 q.2) = true := by decide +kernel
theorem ok_19 : jt_19.all (fun q => okC 19 q.1 q.2) = true := by decide +kernel
theorem ok_20 : jt_20.all (fun q => okC 20 q.1 q.2) = true := by decide +kernel
theorem ok_21 : jt_21.all (fun q => okC 21 q.1 q.2) = true := by decide +kernel
theorem ok_22 : jt_22.all (fun q => okC 22 q.1 q.2) = true := by decide +kernel
theorem ok_23 : jt_23.all (fun q => okC 23 q.1 q.2) = true := by decide +kernel
theorem ok_24 : jt_24.all (fun q => okC 24 q.1 q.2) = true := by decide +kernel
theorem ok_25 : jt_25.all (fun q => okC 25 q.1 q.2) = true := by decide +kernel
theorem ok_26 : jt_26.all (fun q => okC 26 q.1 q.2) = true := by decide +kernel
theorem ok_27 : jt_27.all (fun q => okC 27 q.1 q.2) = true := by decide +kernel
theorem ok_28 : jt_28.all (fun q => okC 28 q.1 q.2) = true := by decide +kernel
theorem ok_29 : jt_29.all (fun q => okC 29 q.1 q.2) = true := by decide +kernel
theorem ok_30 : jt_30.all (fun q => okC 30 q.1 q.2) = true := by decide +kernel
theorem ok_31 : jt_31.all (fun q => okC 31 q.1 q.2) = true := by decide +kernel
theorem ok_32 : jt_32.all (fun q => okC 32 q.1 q.2) = true := by decide +kernel
theorem ok_33 : jt_33.all (fun q => okC 33 q.1 q.2) = true := by decide +kernel
theorem ok_34 : jt_34.all (fun q => okC 34 q.1 q.2) = true := by decide +kernel
theorem ok_35 : jt_35.all (fun q => okC 35 q.1 q.2) = true := by decide +kernel
theorem ok_36 : jt_36.all (fun q => okC 36 q.1 q.2) = true := by decide +kernel
theorem ok_37 : jt_37.all (fun q => okC 37 q.1 q.2) = true := by decide +kernel
theorem ok_38 : jt_38.all (fun q => okC 38 q.1 q.2) = true := by decide +kernel
theorem ok_39 : jt_39.all (fun q => okC 39 q.1 q.2) = true := by decide +kernel
theorem ok_40 : jt_40.all (fun q => okC 40 q.1 q.2) = true := by decide +kernel
theorem ok_41 : jt_41.all (fun q => okC 41 q.1 q.2) = true := by decide +kernel
theorem ok_42 : jt_42.all (fun q => okC 42 q.1 q.2) = true := by decide +kernel
theorem ok_43 : jt_43.all (fun q => okC 43 q.1 q.2) = true := by decide +kernel
theorem ok_44 : jt_44.all (fun q => okC 44 q.1 q.2) = true := by decide +kernel
theorem ok_45 : jt_45.all (fun q => okC 45 q.1 q.2) = true := by decide +kernel
theorem ok_46 : jt_46.all (fun q => okC 46 q.1 q.2) = true := by decide +kernel
theorem ok_47 : jt_47.all (fun q => okC 47 q.1 q.2) = true := by decide +kernel
theorem ok_48 : jt_48.all (fun q => okC 48 q.1 q.2) = true := by decide +kernel
theorem ok_49 : jt_49.all (fun q => okC 49 q.1 q.2) = true := by decide +kernel
theorem ok_50 : jt_50.all (fun q => okC 50 q.1 q.2) = true := by decide +kernel
theorem ok_51 : jt_51.all (fun q => okC 51 q.1 q.2) = true := by decide +kernel
theorem ok_52 : jt_52.all (fun q => okC 52 q.1 q.2) = true := by decide +kernel
theorem ok_53 : jt_53.all (fun q => okC 53 q.1 q.2) = true := by decide +kernel
theorem ok_54 : jt_54.all (fun q => okC 54 q.1 q.2) = true := by decide +kernel
theorem ok_55 : jt_55.all (fun q => okC 55 q.1 q.2) = true := by decide +kernel
theorem ok_56 : jt_56.all (fun q => okC 56 q.1 q.2) = true := by decide +kernel
theorem ok_57 : jt_57.all (fun q => okC 57 q.1 q.2) = true := by decide +kernel
theorem ok_58 : jt_58.all (fun q => okC 58 q.1 q.2) = true := by decide +kernel
theorem ok_59 : jt_59.all (fun q => okC 59 q.1 q.2) = true := by decide +kernel
theorem ok_60 : jt_60.all (fun q => okC 60 q.1 q.2) = true := by decide +kernel
theorem ok_61 : jt_61.all (fun q => okC 61 q.1 q.2) = true := by decide +kernel
theorem ok_62 : jt_62.all (fun q => okC 62 q.1 q.2) = true := by decide +kernel
theorem ok_63 : jt_63.all (fun q => okC 63 q.1 q.2) = true := by decide +kernel
theorem ok_64 : jt_64.all (fun q => okC 64 q.1 q.2) = true := by decide +kernel
theorem ok_65 : jt_65.all (fun q => okC 65 q.1 q.2) = true := by decide +kernel
theorem ok_66 : jt_66.all (fun q => okC 66 q.1 q.2) = true := by decide +kernel
theorem ok_67 : jt_67.all (fun q => okC 67 q.1 q.2) = true := by decide +kernel
theorem ok_68 : jt_68.all (fun q => okC 68 q.1 q.2) = true := by decide +kernel
theorem ok_69 : jt_69.all (fun q => okC 69 q.1 q.2) = true := by decide +kernel
theorem ok_70 : jt_70.all (fun q => okC 70 q.1 q.2) = true := by decide +kernel
theorem ok_71 : jt_71.all (fun q => okC 71 q.1 q.2) = true := by decide +kernel
theorem ok_72 : jt_72.all (fun q => okC 72 q.1 q.2) = true := by decide +kernel
theorem ok_73 : jt_73.all (fun q => okC 73 q.1 q.2) = true := by decide +kernel
theorem ok_74 : jt_74.all (fun q => okC 74 q.1 q.2) = true := by decide +kernel
theorem ok_75 : jt_75.all (fun q => okC 75 q.1 q.2) = true := by decide +kernel
theorem ok_76 : jt_76.all (fun q => okC 76 q.1 q.2) = true := by decide +kernel
theorem ok_77 : jt_77.all (fun q => okC 77 q.1 q.2) = true := by decide +kernel
theorem ok_78 : jt_78.all (fun q => okC 78 q.1 q.2) = true := by decide +kernel
theorem ok_79 : jt_79.all (fun q => okC 79 q.1 q.2) = true := by decide +kernel
theorem ok_80 : jt_80.all (fun q => okC 80 q.1 q.2) = true := by decide +kernel
theorem ok_81 : jt_81.all (fun q => okC 81 q.1 q.2) = true := by decide +kernel
theorem ok_82 : jt_82.all (fun q => okC 82 q.1 q.2) = true := by decide +kernel
theorem ok_83 : jt_83.all (fun q => okC 83 q.1 q.2) = true := by decide +kernel
theorem ok_84 : jt_84.all (fun q => okC 84 q.1 q.2) = true := by decide +kernel
theorem ok_85 : jt_85.all (fun q => okC 85 q.1 q.2) = true := by decide +kernel
theorem ok_86 : jt_86.all (fun q => okC 86 q.1 q.2) = true := by decide +kernel
theorem ok_87 : jt_87.all (fun q => okC 87 q.1 q.2) = true := by decide +kernel
theorem ok_88 : jt_88.all (fun q => okC 88 q.1 q.2) = true := by decide +kernel
theorem ok_89 : jt_89.all (fun q => okC 89 q.1 q.2) = true := by decide +kernel
theorem ok_90 : jt_90.all (fun q => okC 90 q.1 q.2) = true := by decide +kernel
theorem ok_91 : jt_91.all (fun q => okC 91 q.1 q.2) = true := by decide +kernel
theorem ok_92 : jt_92.all (fun q => okC 92 q.1 q.2) = true := by decide +kernel
theorem ok_93 : jt_93.all (fun q => okC 93 q.1 q.2) = true := by decide +kernel
theorem ok_94 : jt_94.all (fun q => okC 94 q.1 q.2) = true := by decide +kernel
theorem ok_95 : jt_95.all (fun q => okC 95 q.1 q.2) = true := by decide +kernel
theorem ok_96 : jt_96.all (fun q => okC 96 q.1 q.2) = true := by decide +kernel
theorem ok_97 : jt_97.all (fun q => okC 97 q.1 q.2) = true := by decide +kernel
theorem ok_98 : jt_98.all (fun q => okC 98 q.1 q.2) = true := by decide +kernel
theorem ok_99 : jt_99.all (fun q => okC 99 q.1 q.2) = true := by decide +kernel
theorem ok_100 : jt_100.all (fun q => okC 100 q.1 q.2) = true := by decide +kernel
theorem ok_101 : jt_101.all (fun q => okC 101 q.1 q.2) = true := by decide +kernel
theorem ok_102 : jt_102.all (fun q => okC 102 q.1 q.2) = true := by decide +kernel
theorem ok_103 : jt_103.all (fun q => okC 103 q.1 q.2) = true := by decide +kernel
theorem ok_104 : jt_104.all (fun q => okC 104 q.1 q.2) = true := by decide +kernel
theorem ok_105 : jt_105.all (fun q => okC 105 q.1 q.2) = true := by decide +kernel
theorem ok_106 : jt_106.all (fun q => okC 106 q.1 q.2) = true := by decide +kernel
theorem ok_107 : jt_107.all (fun q => okC 107 q.1 q.2) = true := by decide +kernel
theorem ok_108 : jt_108.all (fun q => okC 108 q.1 q.2) = true := by decide +kernel
theorem ok_109 : jt_109.all (fun q => okC 109 q.1 q.2) = true := by decide +kernel
theorem ok_110 : jt_110.all (fun q => okC 110 q.1 q.2) = true := by decide +kernel
theorem ok_111 : jt_111.all (fun q => okC 111 q.1 q.2) = true := by decide +kernel
theorem ok_112 : jt_112.all (fun q => okC 112 q.1 q.2) = true := by decide +kernel
theorem ok_113 : jt_113.all (fun q => okC 113 q.1 q.2) = true := by decide +kernel
theorem ok_114 : jt_114.all (fun q => okC 114 q.1 q.2) = true := by decide +kernel
theorem ok_115 : jt_115.all (fun q => okC 115 q.1 q.2) = true := by decide +kernel
theorem ok_116 : jt_116.all (fun q => okC 116 q.1 q.2) = true := by decide +kernel
theorem ok_117 : jt_117.all (fun q => okC 117 q.1 q.2) = true := by decide +kernel
theorem ok_118 : jt_118.all (fun q => okC 118 q.1 q.2) = true := by decide +kernel
theorem ok_119 : jt_119.all (fun q => okC 119 q.1 q.2) = true := by decide +kernel
theorem ok_120 : jt_120.all (fun q => okC 120 q.1 q.2) = true := by decide +kernel
theorem ok_121 : jt_121.all (fun q => okC 121 q.1 q.2) = true := by decide +kernel
theorem ok_122 : jt_122.all (fun q => okC 122 q.1 q.2) = true := by decide +kernel
theorem ok_123 : jt_123.all (fun q => okC 123 q.1 q.2) = true := by decide +kernel
theorem ok_124 : jt_124.all (fun q => okC 124 q.1 q.2) = true := by decide +kernel
theorem ok_125 : jt_125.all (fun q => okC 125 q.1 q.2) = true := by decide +kernel
theorem ok_126 : jt_126.all (fun q => okC 126 q.1 q.2) = true := by decide +kernel
theorem ok_127 : jt_127.all (fun q => okC 127 q.1 q.2) = true := by decide +kernel
theorem ok_128 : jt_128.all (fun q => okC 128 q.1 q.2) = true := by decide +kernel
theorem ok_129 : jt_129.all (fun q => okC 129 q.1 q.2) = true := by decide +kernel
theorem ok_130 : jt_130.all (fun q => okC 130 q.1 q.2) = true := by decide +kernel
theorem ok_131 : jt_131.all (fun q => okC 131 q.1 q.2) = true := by decide +kernel
theorem ok_132 : jt_132.all (fun q => okC 132 q.1 q.2) = true := by decide +kernel
theorem ok_133 : jt_133.all (fun q => okC 133 q.1 q.2) = true := by decide +kernel
theorem ok_134 : jt_134.all (fun q => okC 134 q.1 q.2) = true := by decide +kernel
theorem ok_135 : jt_135.all (fun q => okC 135 q.1 q.2) = true := by decide +kernel
theorem ok_136 : jt_136.all (fun q => okC 136 q.1 q.2) = true := by decide +kernel
theorem ok_137 : jt_137.all (fun q => okC 137 q.1 q.2) = true := by decide +kernel
theorem ok_138 : jt_138.all (fun q => okC 138 q.1 q.2) = true := by decide +kernel
theorem ok_139 : jt_139.all (fun q => okC 139 q.1 q.2) = true := by decide +kernel
theorem ok_140 : jt_140.all (fun q => okC 140 q.1 q.2) = true := by decide +kernel
theorem ok_141 : jt_141.all (fun q => okC 141 q.1 q.2) = true := by decide +kernel
theorem ok_142 : jt_142.all (fun q => okC 142 q.1 q.2) = true := by decide +kernel
theorem ok_143 : jt_143.all (fun q => okC 143 q.1 q.2) = true := by decide +kernel
theorem okL {k t : Nat} : ∀ (l : List (Nat × List CE)), l.all (fun q => okC k q.1 q.2) = true → okC k t ((l.lookup t).getD []) = true := by
  intro l
  induction l with
  | nil => intro _; rfl
  | cons q l ih =>
    intro h
    rw [List.all_cons, Bool.and_eq_true] at h
    obtain ⟨t0, c⟩ := q
    rw [List.lookup_cons]
    by_cases ht : t = t0
    · subst ht
      simp only [beq_self_eq_true, if_true]
      exact h.1
    · have hb : (t == t0) = false := beq_eq_false_iff_ne.mpr ht
      rw [hb]
      exact ih h.2

/-! the same of the law -/
theorem okl_18 : okC 144 18 qL_law_18 = true := by decide +kernel
theorem okl_160 : okC 144 160 qL_law_160 = true := by decide +kernel
theorem okl_193 : okC 144 193 qL_law_193 = true := by decide +kernel
theorem okl_236 : okC 144 236 qL_law_236 = true := by decide +kernel
theorem okl_269 : okC 144 269 qL_law_269 = true := by decide +kernel
theorem okl_312 : okC 144 312 qL_law_312 = true := by decide +kernel
theorem okl_335 : okC 144 335 qL_law_335 = true := by decide +kernel
theorem okl_368 : okC 144 368 qL_law_368 = true := by decide +kernel
theorem okl_431 : okC 144 431 qL_law_431 = true := by decide +kernel
theorem okl_444 : okC 144 444 qL_law_444 = true := by decide +kernel
theorem okl_467 : okC 144 467 qL_law_467 = true := by decide +kernel
theorem okl_501 : okC 144 501 qL_law_501 = true := by decide +kernel
theorem okl_545 : okC 144 545 qL_law_545 = true := by decide +kernel
theorem okl_579 : okC 144 579 qL_law_579 = true := by decide +kernel
theorem okl_643 : okC 144 643 qL_law_643 = true := by decide +kernel
theorem okl_687 : okC 144 687 qL_law_687 = true := by decide +kernel
theorem okl_700 : okC 144 700 qL_law_700 = true := by decide +kernel
theorem okl_723 : okC 144 723 qL_law_723 = true := by decide +kernel
theorem okl_757 : okC 144 757 qL_law_757 = true := by decide +kernel
theorem okl_780 : okC 144 780 qL_law_780 = true := by decide +kernel
theorem okl_823 : okC 144 823 qL_law_823 = true := by decide +kernel
theorem okl_866 : okC 144 866 qL_law_866 = true := by decide +kernel
theorem okl_879 : okC 144 879 qL_law_879 = true := by decide +kernel
theorem okl_892 : okC 144 892 qL_law_892 = true := by decide +kernel
theorem okl_935 : okC 144 935 qL_law_935 = true := by decide +kernel
theorem okl_978 : okC 144 978 qL_law_978 = true := by decide +kernel
theorem okl_1021 : okC 144 1021 qL_law_1021 = true := by decide +kernel
theorem okl_1044 : okC 144 1044 qL_law_1044 = true := by decide +kernel
theorem okl_1127 : okC 144 1127 qL_law_1127 = true := by decide +kernel
theorem okl_1190 : okC 144 1190 qL_law_1190 = true := by decide +kernel
theorem okl_1196 : okC 144 1196 qL_law_1196 = true := by decide +kernel
theorem ok_144 : jt_144.all (fun q => okC 144 q.1 q.2) = true := by
  unfold jt_144
  simp only [List.all_cons, List.all_nil, okl_18, okl_160, okl_193, okl_236, okl_269, okl_312, okl_335, okl_368, okl_431, okl_444, okl_467, okl_501, okl_545, okl_579, okl_643, okl_687, okl_700, okl_723, okl_757, okl_780, okl_823, okl_866, okl_879, okl_892, okl_935, okl_978, okl_1021, okl_1044, okl_1127, okl_1190, okl_1196, Bool.and_self]
theorem okJ : ∀ k t, okC k t (J k t) = true := by
  intro k t
  unfold J
  match k with
  | 0 => exact okL jt_0 ok_0
  | 1 => exact okL jt_1 ok_1
  | 2 => exact okL jt_2 ok_2
  | 3 => exact okL jt_3 ok_3
  | 4 => exact okL jt_4 ok_4
  | 5 => exact okL jt_5 ok_5
  | 6 => exact okL jt_6 ok_6
  | 7 => exact okL jt_7 ok_7
  | 8 => exact okL jt_8 ok_8
  | 9 => exact okL jt_9 ok_9
  | 10 => exact okL jt_10 ok_10
  | 11 => exact okL jt_11 ok_11
  | 12 => exact okL jt_12 ok_12
  | 13 => exact okL jt_13 ok_13
  | 14 => exact okL jt_14 ok_14
  | 15 => exact okL jt_15 ok_15
  | 16 => exact okL jt_16 ok_16
  | 17 => exact okL jt_17 ok_17
  | 18 => exact okL jt_18 ok_18
  | 19 => exact okL jt_19 ok_19
  | 20 => exact okL jt_20 ok_20
  | 21 => exact okL jt_21 ok_21
  | 22 => exact okL jt_22 ok_22
  | 23 => exact okL jt_23 ok_23
  | 24 => exact okL jt_24 ok_24
  | 25 => exact okL jt_25 ok_25
  | 26 => exact okL jt_26 ok_26
  | 27 => exact okL jt_27 ok_27
  | 28 => exact okL jt_28 ok_28
  | 29 => exact okL jt_29 ok_29
  | 30 => exact okL jt_30 ok_30
  | 31 => exact okL jt_31 ok_31
  | 32 => exact okL jt_32 ok_32
  | 33 => exact okL jt_33 ok_33
  | 34 => exact okL jt_34 ok_34
  | 35 => exact okL jt_35 ok_35
  | 36 => exact okL jt_36 ok_36
  | 37 => exact okL jt_37 ok_37
  | 38 => exact okL jt_38 ok_38
  | 39 => exact okL jt_39 ok_39
  | 40 => exact okL jt_40 ok_40
  | 41 => exact okL jt_41 ok_41
  | 42 => exact okL jt_42 ok_42
  | 43 => exact okL jt_43 ok_43
  | 44 => exact okL jt_44 ok_44
  | 45 => exact okL jt_45 ok_45
  | 46 => exact okL jt_46 ok_46
  | 47 => exact okL jt_47 ok_47
  | 48 => exact okL jt_48 ok_48
  | 49 => exact okL jt_49 ok_49
  | 50 => exact okL jt_50 ok_50
  | 51 => exact okL jt_51 ok_51
  | 52 => exact okL jt_52 ok_52
  | 53 => exact okL jt_53 ok_53
  | 54 => exact okL jt_54 ok_54
  | 55 => exact okL jt_55 ok_55
  | 56 => exact okL jt_56 ok_56
  | 57 => exact okL jt_57 ok_57
  | 58 => exact okL jt_58 ok_58
  | 59 => exact okL jt_59 ok_59
  | 60 => exact okL jt_60 ok_60
  | 61 => exact okL jt_61 ok_61
  | 62 => exact okL jt_62 ok_62
  | 63 => exact okL jt_63 ok_63
  | 64 => exact okL jt_64 ok_64
  | 65 => exact okL jt_65 ok_65
  | 66 => exact okL jt_66 ok_66
  | 67 => exact okL jt_67 ok_67
  | 68 => exact okL jt_68 ok_68
  | 69 => exact okL jt_69 ok_69
  | 70 => exact okL jt_70 ok_70
  | 71 => exact okL jt_71 ok_71
  | 72 => exact okL jt_72 ok_72
  | 73 => exact okL jt_73 ok_73
  | 74 => exact okL jt_74 ok_74
  | 75 => exact okL jt_75 ok_75
  | 76 => exact okL jt_76 ok_76
  | 77 => exact okL jt_77 ok_77
  | 78 => exact okL jt_78 ok_78
  | 79 => exact okL jt_79 ok_79
  | 80 => exact okL jt_80 ok_80
  | 81 => exact okL jt_81 ok_81
  | 82 => exact okL jt_82 ok_82
  | 83 => exact okL jt_83 ok_83
  | 84 => exact okL jt_84 ok_84
  | 85 => exact okL jt_85 ok_85
  | 86 => exact okL jt_86 ok_86
  | 87 => exact okL jt_87 ok_87
  | 88 => exact okL jt_88 ok_88
  | 89 => exact okL jt_89 ok_89
  | 90 => exact okL jt_90 ok_90
  | 91 => exact okL jt_91 ok_91
  | 92 => exact okL jt_92 ok_92
  | 93 => exact okL jt_93 ok_93
  | 94 => exact okL jt_94 ok_94
  | 95 => exact okL jt_95 ok_95
  | 96 => exact okL jt_96 ok_96
  | 97 => exact okL jt_97 ok_97
  | 98 => exact okL jt_98 ok_98
  | 99 => exact okL jt_99 ok_99
  | 100 => exact okL jt_100 ok_100
  | 101 => exact okL jt_101 ok_101
  | 102 => exact okL jt_102 ok_102
  | 103 => exact okL jt_103 ok_103
  | 104 => exact okL jt_104 ok_104
  | 105 => exact okL jt_105 ok_105
  | 106 => exact okL jt_106 ok_106
  | 107 => exact okL jt_107 ok_107
  | 108 => exact okL jt_108 ok_108
  | 109 => exact okL jt_109 ok_109
  | 110 => exact okL jt_110 ok_110
  | 111 => exact okL jt_111 ok_111
  | 112 => exact okL jt_112 ok_112
  | 113 => exact okL jt_113 ok_113
  | 114 => exact okL jt_114 ok_114
  | 115 => exact okL jt_115 ok_115
  | 116 => exact okL jt_116 ok_116
  | 117 => exact okL jt_117 ok_117
  | 118 => exact okL jt_118 ok_118
  | 119 => exact okL jt_119 ok_119
  | 120 => exact okL jt_120 ok_120
  | 121 => exact okL jt_121 ok_121
  | 122 => exact okL jt_122 ok_122
  | 123 => exact okL jt_123 ok_123
  | 124 => exact okL jt_124 ok_124
  | 125 => exact okL jt_125 ok_125
  | 126 => exact okL jt_126 ok_126
  | 127 => exact okL jt_127 ok_127
  | 128 => exact okL jt_128 ok_128
  | 129 => exact okL jt_129 ok_129
  | 130 => exact okL jt_130 ok_130
  | 131 => exact okL jt_131 ok_131
  | 132 => exact okL jt_132 ok_132
  | 133 => exact okL jt_133 ok_133
  | 134 => exact okL jt_134 ok_134
  | 135 => exact okL jt_135 ok_135
  | 136 => exact okL jt_136 ok_136
  | 137 => exact okL jt_137 ok_137
  | 138 => exact okL jt_138 ok_138
  | 139 => exact okL jt_139 ok_139
  | 140 => exact okL jt_140 ok_140
  | 141 => exact okL jt_141 ok_141
  | 142 => exact okL jt_142 ok_142
  | 143 => exact okL jt_143 ok_143
  | 144 => exact okL jt_144 ok_144
  | n + 145 => rw [show jt.getD (n + 145) [] = [] from by rw [List.getD_eq_getElem?_getD, List.getElem?_eq_none (show jt.length ≤ n + 145 from Nat.le_add_left 145 n)]; rfl]; rfl

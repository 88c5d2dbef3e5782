/-! ===== the constructors ===== -/
theorem az_kn_lt {n a : Nat} (h : a < n) : az_kn n a = az_kd a := by unfold az_kn; rw [if_pos h]
theorem az_kn_le {n a : Nat} (h : a + 1 ≤ n) : az_kn n a = az_kd a := az_kn_lt h
theorem kd_0 : az_kd 0 = (0, 10) := (az_kn_lt (n := 130) (by decide)).symm.trans kx_0
theorem kd_1 : az_kd 1 = (0, 5) := (az_kn_lt (n := 130) (by decide)).symm.trans kx_1
theorem kd_2 : az_kd 2 = (0, 4) := (az_kn_lt (n := 130) (by decide)).symm.trans kx_2
theorem kd_3 : az_kd 3 = (3, 30) := (az_kn_lt (n := 130) (by decide)).symm.trans kx_3
theorem kd_4 : az_kd 4 = (1, 8) := (az_kn_lt (n := 130) (by decide)).symm.trans kx_4
theorem kd_5 : az_kd 5 = (1, 8) := (az_kn_lt (n := 130) (by decide)).symm.trans kx_5
theorem kd_6 : az_kd 6 = (1, 8) := (az_kn_lt (n := 130) (by decide)).symm.trans kx_6
theorem kd_7 : az_kd 7 = (1, 8) := (az_kn_lt (n := 130) (by decide)).symm.trans kx_7
theorem kd_8 : az_kd 8 = (1, 8) := (az_kn_lt (n := 130) (by decide)).symm.trans kx_8
theorem kd_9 : az_kd 9 = (1, 8) := (az_kn_lt (n := 130) (by decide)).symm.trans kx_9
theorem kd_10 : az_kd 10 = (1, 8) := (az_kn_lt (n := 130) (by decide)).symm.trans kx_10
theorem kd_11 : az_kd 11 = (1, 8) := (az_kn_lt (n := 130) (by decide)).symm.trans kx_11
theorem kd_12 : az_kd 12 = (1, 8) := (az_kn_lt (n := 130) (by decide)).symm.trans kx_12
theorem kd_13 : az_kd 13 = (1, 8) := (az_kn_lt (n := 130) (by decide)).symm.trans kx_13
theorem kd_14 : az_kd 14 = (1, 8) := (az_kn_lt (n := 130) (by decide)).symm.trans kx_14
theorem kd_15 : az_kd 15 = (1, 8) := (az_kn_lt (n := 130) (by decide)).symm.trans kx_15
theorem kd_16 : az_kd 16 = (1, 8) := (az_kn_lt (n := 130) (by decide)).symm.trans kx_16
theorem kd_17 : az_kd 17 = (1, 8) := (az_kn_lt (n := 130) (by decide)).symm.trans kx_17
theorem kd_18 : az_kd 18 = (1, 8) := (az_kn_lt (n := 130) (by decide)).symm.trans kx_18
theorem kd_19 : az_kd 19 = (1, 8) := (az_kn_lt (n := 130) (by decide)).symm.trans kx_19
theorem kd_20 : az_kd 20 = (1, 8) := (az_kn_lt (n := 130) (by decide)).symm.trans kx_20
theorem kd_21 : az_kd 21 = (1, 8) := (az_kn_lt (n := 130) (by decide)).symm.trans kx_21
theorem kd_22 : az_kd 22 = (1, 8) := (az_kn_lt (n := 130) (by decide)).symm.trans kx_22
theorem kd_23 : az_kd 23 = (1, 8) := (az_kn_lt (n := 130) (by decide)).symm.trans kx_23
theorem kd_24 : az_kd 24 = (1, 8) := (az_kn_lt (n := 130) (by decide)).symm.trans kx_24
theorem kd_25 : az_kd 25 = (1, 8) := (az_kn_lt (n := 130) (by decide)).symm.trans kx_25
theorem kd_26 : az_kd 26 = (1, 8) := (az_kn_lt (n := 130) (by decide)).symm.trans kx_26
theorem kd_27 : az_kd 27 = (1, 8) := (az_kn_lt (n := 130) (by decide)).symm.trans kx_27
theorem kd_28 : az_kd 28 = (1, 8) := (az_kn_lt (n := 130) (by decide)).symm.trans kx_28
theorem kd_29 : az_kd 29 = (1, 8) := (az_kn_lt (n := 130) (by decide)).symm.trans kx_29
theorem kd_30 : az_kd 30 = (1, 8) := (az_kn_lt (n := 130) (by decide)).symm.trans kx_30
theorem kd_31 : az_kd 31 = (1, 8) := (az_kn_lt (n := 130) (by decide)).symm.trans kx_31
theorem kd_32 : az_kd 32 = (1, 8) := (az_kn_lt (n := 130) (by decide)).symm.trans kx_32
theorem kd_33 : az_kd 33 = (1, 8) := (az_kn_lt (n := 130) (by decide)).symm.trans kx_33
theorem kd_34 : az_kd 34 = (1, 8) := (az_kn_lt (n := 130) (by decide)).symm.trans kx_34
theorem kd_35 : az_kd 35 = (0, 6) := (az_kn_lt (n := 130) (by decide)).symm.trans kx_35
theorem kd_36 : az_kd 36 = (1, 40) := (az_kn_lt (n := 130) (by decide)).symm.trans kx_36
theorem kd_37 : az_kd 37 = (1, 4) := (az_kn_lt (n := 130) (by decide)).symm.trans kx_37
theorem kd_38 : az_kd 38 = (3, 4) := (az_kn_lt (n := 130) (by decide)).symm.trans kx_38
theorem kd_39 : az_kd 39 = (1, 3) := (az_kn_lt (n := 130) (by decide)).symm.trans kx_39
theorem kd_40 : az_kd 40 = (1, 3) := (az_kn_lt (n := 130) (by decide)).symm.trans kx_40
theorem kd_41 : az_kd 41 = (1, 3) := (az_kn_lt (n := 130) (by decide)).symm.trans kx_41
theorem kd_42 : az_kd 42 = (1, 3) := (az_kn_lt (n := 130) (by decide)).symm.trans kx_42
theorem kd_43 : az_kd 43 = (1, 3) := (az_kn_lt (n := 130) (by decide)).symm.trans kx_43
theorem kd_44 : az_kd 44 = (1, 8) := (az_kn_lt (n := 130) (by decide)).symm.trans kx_44
theorem kd_45 : az_kd 45 = (0, 2) := (az_kn_lt (n := 130) (by decide)).symm.trans kx_45
theorem kd_46 : az_kd 46 = (0, 2) := (az_kn_lt (n := 130) (by decide)).symm.trans kx_46
theorem kd_47 : az_kd 47 = (0, 2) := (az_kn_lt (n := 130) (by decide)).symm.trans kx_47
theorem kd_48 : az_kd 48 = (0, 2) := (az_kn_lt (n := 130) (by decide)).symm.trans kx_48
theorem kd_49 : az_kd 49 = (0, 0) := (az_kn_lt (n := 130) (by decide)).symm.trans kx_49
theorem kd_50 : az_kd 50 = (1, 12) := (az_kn_lt (n := 130) (by decide)).symm.trans kx_50
theorem kd_51 : az_kd 51 = (1, 24) := (az_kn_lt (n := 130) (by decide)).symm.trans kx_51
theorem kd_52 : az_kd 52 = (1, 24) := (az_kn_lt (n := 130) (by decide)).symm.trans kx_52
theorem kd_53 : az_kd 53 = (1, 24) := (az_kn_lt (n := 130) (by decide)).symm.trans kx_53
theorem kd_54 : az_kd 54 = (1, 24) := (az_kn_lt (n := 130) (by decide)).symm.trans kx_54
theorem kd_55 : az_kd 55 = (1, 24) := (az_kn_lt (n := 130) (by decide)).symm.trans kx_55
theorem kd_56 : az_kd 56 = (0, 3) := (az_kn_lt (n := 130) (by decide)).symm.trans kx_56
theorem kd_57 : az_kd 57 = (1, 60) := (az_kn_lt (n := 130) (by decide)).symm.trans kx_57
theorem kd_58 : az_kd 58 = (1, 60) := (az_kn_lt (n := 130) (by decide)).symm.trans kx_58
theorem kd_59 : az_kd 59 = (1, 60) := (az_kn_lt (n := 130) (by decide)).symm.trans kx_59
theorem kd_60 : az_kd 60 = (0, 7) := (az_kn_lt (n := 130) (by decide)).symm.trans kx_60
theorem kd_61 : az_kd 61 = (1, 20) := (az_kn_lt (n := 130) (by decide)).symm.trans kx_61
theorem kd_62 : az_kd 62 = (1, 20) := (az_kn_lt (n := 130) (by decide)).symm.trans kx_62
theorem kd_63 : az_kd 63 = (0, 9) := (az_kn_lt (n := 130) (by decide)).symm.trans kx_63
theorem kd_64 : az_kd 64 = (1, 40) := (az_kn_lt (n := 130) (by decide)).symm.trans kx_64
theorem kd_65 : az_kd 65 = (1, 40) := (az_kn_lt (n := 130) (by decide)).symm.trans kx_65
theorem kd_66 : az_kd 66 = (1, 40) := (az_kn_lt (n := 130) (by decide)).symm.trans kx_66
theorem kd_67 : az_kd 67 = (1, 40) := (az_kn_lt (n := 130) (by decide)).symm.trans kx_67
theorem kd_68 : az_kd 68 = (1, 12) := (az_kn_lt (n := 130) (by decide)).symm.trans kx_68
theorem kd_69 : az_kd 69 = (1, 12) := (az_kn_lt (n := 130) (by decide)).symm.trans kx_69
theorem kd_70 : az_kd 70 = (1, 12) := (az_kn_lt (n := 130) (by decide)).symm.trans kx_70
theorem kd_71 : az_kd 71 = (0, 1) := (az_kn_lt (n := 130) (by decide)).symm.trans kx_71
theorem kd_72 : az_kd 72 = (3, 12) := (az_kn_lt (n := 130) (by decide)).symm.trans kx_72
theorem kd_73 : az_kd 73 = (1, 12) := (az_kn_lt (n := 130) (by decide)).symm.trans kx_73
theorem kd_74 : az_kd 74 = (1, 12) := (az_kn_lt (n := 130) (by decide)).symm.trans kx_74
theorem kd_75 : az_kd 75 = (1, 12) := (az_kn_lt (n := 130) (by decide)).symm.trans kx_75
theorem kd_76 : az_kd 76 = (1, 12) := (az_kn_lt (n := 130) (by decide)).symm.trans kx_76
theorem kd_77 : az_kd 77 = (1, 12) := (az_kn_lt (n := 130) (by decide)).symm.trans kx_77
theorem kd_78 : az_kd 78 = (1, 12) := (az_kn_lt (n := 130) (by decide)).symm.trans kx_78
theorem kd_79 : az_kd 79 = (1, 12) := (az_kn_lt (n := 130) (by decide)).symm.trans kx_79
theorem kd_80 : az_kd 80 = (1, 12) := (az_kn_lt (n := 130) (by decide)).symm.trans kx_80
theorem kd_81 : az_kd 81 = (1, 12) := (az_kn_lt (n := 130) (by decide)).symm.trans kx_81
theorem kd_82 : az_kd 82 = (1, 12) := (az_kn_lt (n := 130) (by decide)).symm.trans kx_82
theorem kd_83 : az_kd 83 = (1, 12) := (az_kn_lt (n := 130) (by decide)).symm.trans kx_83
theorem kd_84 : az_kd 84 = (1, 12) := (az_kn_lt (n := 130) (by decide)).symm.trans kx_84
theorem kd_85 : az_kd 85 = (1, 12) := (az_kn_lt (n := 130) (by decide)).symm.trans kx_85
theorem kd_86 : az_kd 86 = (0, 8) := (az_kn_lt (n := 130) (by decide)).symm.trans kx_86
theorem kd_87 : az_kd 87 = (1, 4) := (az_kn_lt (n := 130) (by decide)).symm.trans kx_87
theorem kd_88 : az_kd 88 = (1, 4) := (az_kn_lt (n := 130) (by decide)).symm.trans kx_88
theorem kd_89 : az_kd 89 = (3, 4) := (az_kn_lt (n := 130) (by decide)).symm.trans kx_89
theorem kd_90 : az_kd 90 = (1, 16) := (az_kn_lt (n := 130) (by decide)).symm.trans kx_90
theorem kd_91 : az_kd 91 = (1, 16) := (az_kn_lt (n := 130) (by decide)).symm.trans kx_91
theorem kd_92 : az_kd 92 = (1, 16) := (az_kn_lt (n := 130) (by decide)).symm.trans kx_92
theorem kd_93 : az_kd 93 = (1, 16) := (az_kn_lt (n := 130) (by decide)).symm.trans kx_93
theorem kd_94 : az_kd 94 = (0, 2) := (az_kn_lt (n := 130) (by decide)).symm.trans kx_94
theorem kd_95 : az_kd 95 = (0, 2) := (az_kn_lt (n := 130) (by decide)).symm.trans kx_95
theorem kd_96 : az_kd 96 = (1, 8) := (az_kn_lt (n := 130) (by decide)).symm.trans kx_96
theorem kd_97 : az_kd 97 = (0, 11) := (az_kn_lt (n := 130) (by decide)).symm.trans kx_97
theorem kd_98 : az_kd 98 = (1, 240) := (az_kn_lt (n := 130) (by decide)).symm.trans kx_98
theorem kd_99 : az_kd 99 = (1, 40) := (az_kn_lt (n := 130) (by decide)).symm.trans kx_99
theorem kd_100 : az_kd 100 = (1, 4) := (az_kn_lt (n := 130) (by decide)).symm.trans kx_100
theorem kd_101 : az_kd 101 = (1, 12) := (az_kn_lt (n := 130) (by decide)).symm.trans kx_101
theorem kd_102 : az_kd 102 = (1, 3) := (az_kn_lt (n := 130) (by decide)).symm.trans kx_102
theorem kd_103 : az_kd 103 = (1, 3) := (az_kn_lt (n := 130) (by decide)).symm.trans kx_103
theorem kd_104 : az_kd 104 = (1, 3) := (az_kn_lt (n := 130) (by decide)).symm.trans kx_104
theorem kd_105 : az_kd 105 = (1, 3) := (az_kn_lt (n := 130) (by decide)).symm.trans kx_105
theorem kd_106 : az_kd 106 = (1, 8) := (az_kn_lt (n := 130) (by decide)).symm.trans kx_106
theorem kd_107 : az_kd 107 = (1, 8) := (az_kn_lt (n := 130) (by decide)).symm.trans kx_107
theorem kd_108 : az_kd 108 = (1, 12) := (az_kn_lt (n := 130) (by decide)).symm.trans kx_108
theorem kd_109 : az_kd 109 = (1, 24) := (az_kn_lt (n := 130) (by decide)).symm.trans kx_109
theorem kd_110 : az_kd 110 = (1, 24) := (az_kn_lt (n := 130) (by decide)).symm.trans kx_110
theorem kd_111 : az_kd 111 = (1, 24) := (az_kn_lt (n := 130) (by decide)).symm.trans kx_111
theorem kd_112 : az_kd 112 = (1, 24) := (az_kn_lt (n := 130) (by decide)).symm.trans kx_112
theorem kd_113 : az_kd 113 = (1, 24) := (az_kn_lt (n := 130) (by decide)).symm.trans kx_113
theorem kd_114 : az_kd 114 = (1, 60) := (az_kn_lt (n := 130) (by decide)).symm.trans kx_114
theorem kd_115 : az_kd 115 = (1, 60) := (az_kn_lt (n := 130) (by decide)).symm.trans kx_115
theorem kd_116 : az_kd 116 = (1, 60) := (az_kn_lt (n := 130) (by decide)).symm.trans kx_116
theorem kd_117 : az_kd 117 = (1, 20) := (az_kn_lt (n := 130) (by decide)).symm.trans kx_117
theorem kd_118 : az_kd 118 = (1, 20) := (az_kn_lt (n := 130) (by decide)).symm.trans kx_118
theorem kd_119 : az_kd 119 = (1, 40) := (az_kn_lt (n := 130) (by decide)).symm.trans kx_119
theorem kd_120 : az_kd 120 = (1, 40) := (az_kn_lt (n := 130) (by decide)).symm.trans kx_120
theorem kd_121 : az_kd 121 = (1, 40) := (az_kn_lt (n := 130) (by decide)).symm.trans kx_121
theorem kd_122 : az_kd 122 = (1, 40) := (az_kn_lt (n := 130) (by decide)).symm.trans kx_122
theorem kd_123 : az_kd 123 = (2, 144) := (az_kn_lt (n := 130) (by decide)).symm.trans kx_123
theorem kd_124 : az_kd 124 = (1, 144) := (az_kn_lt (n := 130) (by decide)).symm.trans kx_124
theorem kd_125 : az_kd 125 = (1, 12) := (az_kn_lt (n := 130) (by decide)).symm.trans kx_125
theorem kd_126 : az_kd 126 = (1, 40) := (az_kn_lt (n := 130) (by decide)).symm.trans kx_126
theorem kd_127 : az_kd 127 = (1, 4) := (az_kn_lt (n := 130) (by decide)).symm.trans kx_127
theorem kd_128 : az_kd 128 = (1, 4) := (az_kn_lt (n := 130) (by decide)).symm.trans kx_128
theorem kd_129 : az_kd 129 = (1, 64) := (az_kn_lt (n := 130) (by decide)).symm.trans kx_129
theorem zu0 {I : Nat → Nat → Int32} {a j : Nat} (h : I a j = 0) : az_uI I a j 0 = I := by rw [← h]; exact zself
def zI4 (I : Nat → Nat → Int32) : Nat → Nat → Int32 := fun b j => if 4 ≤ b ∧ b < 34 ∧ j < 8 then -1 else I b j
def zI8 (I : Nat → Nat → Int32) : Nat → Nat → Int32 := fun b j => if b = 87 ∧ j < 4 then -1 else I b j
section S
variable {d : Nat} {P : Nat → Nat → Option Nat} {I : Nat → Nat → Int32} {L : Nat → Nat → Int64} {h : az_H}
theorem s_X2_init {n f : Nat} (hk : az_kn n f = (0, 2)) : zD (d + 1) 18 [.ref f] (n, P, I, L) none (n, P, I, az_uL (az_uL L f 0 0) f 1 1) := by
  refine zD_of zm_X2_init rfl ?_
  show az_W _ _ _ 0 [.ref f] [] _
  simp only [u_X2_init_0, u_X2_init_1, u_X2_init_4, u_X2_init_5, u_X2_init_6, u_X2_init_9, u_X2_init_10, u_X2_init_11, u_X2_init_14, az_un_i, az_un_r, az_un_n, az_un_l, Option.toList_some, Option.toList_none, List.cons_append, List.nil_append, List.length_cons, List.length_nil, Nat.reduceLeDiff, Nat.reduceAdd, Nat.zero_le, Nat.zero_add, and_true, true_and, zb_1, eq_self, hk]
theorem s_X6_init (hz : ∀ j, I 35 j = 0) : zD (d + 1) 53 [.ref 35] (36, P, I, L) none (44, az_uP (az_uP (az_uR (az_uP (az_uP P 35 0 (some 36)) 35 2 (some 37)) 38 4) 35 3 (some 38)) 35 5 (some 43), I, L) := by
  refine zD_of zm_X6_init rfl ?_
  show az_W _ _ _ 0 [.ref 35] [] _
  simp only [u_X6_init_0, u_X6_init_1, u_X6_init_4, u_X6_init_5, u_X6_init_7, u_X6_init_9, u_X6_init_12, u_X6_init_13, u_X6_init_14, u_X6_init_17, u_X6_init_18, u_X6_init_19, u_X6_init_21, u_X6_init_24, u_X6_init_25, u_X6_init_26, u_X6_init_27, u_X6_init_31, u_X6_init_34, u_X6_init_35, u_X6_init_36, u_X6_init_39, u_X6_init_40, u_X6_init_41, u_X6_init_43, u_X6_init_46, u_X6_init_47, u_X6_init_48, u_X6_init_51, az_un_i, az_un_r, az_un_n, az_un_l, Option.toList_some, Option.toList_none, List.cons_append, List.nil_append, List.length_cons, List.length_nil, Nat.reduceLeDiff, Nat.reduceAdd, Nat.zero_le, Nat.zero_add, and_true, true_and, zb_1, eq_self, az_kn_le, kd_35, zu0 (hz 1), zu0 (hz 4), zu0 (hz 6)]
theorem s_X0_init (hz : ∀ j, I 49 j = 0) : zD (d + 1) 0 [.ref 49] (50, P, I, L) none (56, az_uP (az_uP (az_uP (az_uP (az_uP (az_uP P 49 0 (some 50)) 49 2 (some 51)) 49 3 (some 52)) 49 4 (some 53)) 49 5 (some 54)) 49 6 (some 55), I, L) := by
  refine zD_of zm_X0_init rfl ?_
  show az_W _ _ _ 0 [.ref 49] [] _
  simp only [u_X0_init_0, u_X0_init_1, u_X0_init_4, u_X0_init_5, u_X0_init_7, u_X0_init_9, u_X0_init_12, u_X0_init_13, u_X0_init_14, u_X0_init_17, u_X0_init_18, u_X0_init_20, u_X0_init_22, u_X0_init_25, u_X0_init_26, u_X0_init_28, u_X0_init_30, u_X0_init_33, u_X0_init_34, u_X0_init_36, u_X0_init_38, u_X0_init_41, u_X0_init_42, u_X0_init_44, u_X0_init_46, u_X0_init_49, u_X0_init_50, u_X0_init_52, u_X0_init_54, u_X0_init_57, u_X0_init_58, u_X0_init_59, u_X0_init_62, az_un_i, az_un_r, az_un_n, az_un_l, Option.toList_some, Option.toList_none, List.cons_append, List.nil_append, List.length_cons, List.length_nil, Nat.reduceLeDiff, Nat.reduceAdd, Nat.zero_le, Nat.zero_add, and_true, true_and, zb_1, eq_self, az_kn_le, kd_49, zu0 (hz 1), zu0 (hz 7)]
theorem s_X3_init (hz : ∀ j, I 56 j = 0) : zD (d + 1) 26 [.ref 56] (57, P, I, L) none (60, az_uP (az_uP (az_uP P 56 0 (some 57)) 56 1 (some 58)) 56 2 (some 59), I, L) := by
  refine zD_of zm_X3_init rfl ?_
  show az_W _ _ _ 0 [.ref 56] [] _
  simp only [u_X3_init_0, u_X3_init_1, u_X3_init_4, u_X3_init_5, u_X3_init_7, u_X3_init_9, u_X3_init_12, u_X3_init_13, u_X3_init_15, u_X3_init_17, u_X3_init_20, u_X3_init_21, u_X3_init_23, u_X3_init_25, u_X3_init_28, u_X3_init_29, u_X3_init_30, u_X3_init_33, u_X3_init_34, u_X3_init_35, u_X3_init_38, u_X3_init_39, u_X3_init_40, u_X3_init_43, az_un_i, az_un_r, az_un_n, az_un_l, Option.toList_some, Option.toList_none, List.cons_append, List.nil_append, List.length_cons, List.length_nil, Nat.reduceLeDiff, Nat.reduceAdd, Nat.zero_le, Nat.zero_add, and_true, true_and, zb_1, eq_self, az_kn_le, kd_56, zu0 (hz 3), zu0 (hz 4), zu0 (hz 5)]
theorem s_X7_init (hz : ∀ j, I 60 j = 0) : zD (d + 1) 66 [.ref 60] (61, P, I, L) none (63, az_uP (az_uP P 60 0 (some 61)) 60 1 (some 62), I, L) := by
  refine zD_of zm_X7_init rfl ?_
  show az_W _ _ _ 0 [.ref 60] [] _
  simp only [u_X7_init_0, u_X7_init_1, u_X7_init_4, u_X7_init_5, u_X7_init_7, u_X7_init_9, u_X7_init_12, u_X7_init_13, u_X7_init_15, u_X7_init_17, u_X7_init_20, u_X7_init_21, u_X7_init_22, u_X7_init_25, az_un_i, az_un_r, az_un_n, az_un_l, Option.toList_some, Option.toList_none, List.cons_append, List.nil_append, List.length_cons, List.length_nil, Nat.reduceLeDiff, Nat.reduceAdd, Nat.zero_le, Nat.zero_add, and_true, true_and, zb_1, eq_self, az_kn_le, kd_60, zu0 (hz 2)]
theorem s_X9_init (hz : ∀ j, I 63 j = 0) : zD (d + 1) 80 [.ref 63] (64, P, I, L) none (71, az_uP (az_uP (az_uP (az_uP (az_uP (az_uP (az_uP P 63 0 (some 64)) 63 1 (some 65)) 63 2 (some 66)) 63 3 (some 67)) 63 5 (some 68)) 63 6 (some 69)) 63 7 (some 70), I, L) := by
  refine zD_of zm_X9_init rfl ?_
  show az_W _ _ _ 0 [.ref 63] [] _
  simp only [u_X9_init_0, u_X9_init_1, u_X9_init_4, u_X9_init_5, u_X9_init_7, u_X9_init_9, u_X9_init_12, u_X9_init_13, u_X9_init_15, u_X9_init_17, u_X9_init_20, u_X9_init_21, u_X9_init_23, u_X9_init_25, u_X9_init_28, u_X9_init_29, u_X9_init_31, u_X9_init_33, u_X9_init_36, u_X9_init_37, u_X9_init_38, u_X9_init_41, u_X9_init_42, u_X9_init_44, u_X9_init_46, u_X9_init_49, u_X9_init_50, u_X9_init_52, u_X9_init_54, u_X9_init_57, u_X9_init_58, u_X9_init_60, u_X9_init_62, u_X9_init_65, az_un_i, az_un_r, az_un_n, az_un_l, Option.toList_some, Option.toList_none, List.cons_append, List.nil_append, List.length_cons, List.length_nil, Nat.reduceLeDiff, Nat.reduceAdd, Nat.zero_le, Nat.zero_add, and_true, true_and, zb_1, eq_self, az_kn_le, kd_63, zu0 (hz 4)]
theorem s_X1_init : zD (d + 1) 13 [.ref 71] (72, P, I, L) none (86, az_uP (az_uP (az_uR P 72 12) 71 0 (some 72)) 71 1 (some 85), I, L) := by
  refine zD_of zm_X1_init rfl ?_
  show az_W _ _ _ 0 [.ref 71] [] _
  simp only [u_X1_init_0, u_X1_init_1, u_X1_init_4, u_X1_init_5, u_X1_init_7, u_X1_init_9, u_X1_init_13, u_X1_init_16, u_X1_init_17, u_X1_init_19, u_X1_init_21, u_X1_init_24, az_un_i, az_un_r, az_un_n, az_un_l, Option.toList_some, Option.toList_none, List.cons_append, List.nil_append, List.length_cons, List.length_nil, Nat.reduceLeDiff, Nat.reduceAdd, Nat.zero_le, Nat.zero_add, and_true, true_and, zb_1, eq_self, az_kn_le, kd_71]
theorem s_X8_init : zD (d + 1) 72 [.ref 86] (87, P, I, L) none (94, az_uP (az_uR (az_uP (az_uP P 86 0 (some 87)) 86 1 (some 88)) 89 4) 86 2 (some 89), zI8 I, L) := by
  refine zD_of zm_X8_init rfl ?_
  show az_W _ _ _ 0 [.ref 86, .null] [] _
  simp only [u_X8_init_0, u_X8_init_1, u_X8_init_4, u_X8_init_5, u_X8_init_6, u_X8_init_8, u_X8_init_11, u_X8_init_12, u_X8_init_13, u_X8_init_15, u_X8_init_18, u_X8_init_19, u_X8_init_20, u_X8_init_22, u_X8_init_26, u_X8_init_29, u_X8_init_30, az_un_i, az_un_r, az_un_n, az_un_l, Option.toList_some, Option.toList_none, List.cons_append, List.nil_append, List.length_cons, List.length_nil, Nat.reduceLeDiff, Nat.reduceAdd, Nat.zero_le, Nat.zero_add, and_true, true_and, zb_1, eq_self, az_kn_le, kd_86]
  refine zloop (P := fun k => ∀ J, (∀ b j, J b j = if b = 87 ∧ j < k then -1 else I b j) → az_W (zD d) _ _ 31 [.ref 86, .int (nI k)] [] (94, _, J, L)) 4 (fun k hk ih J e => ?_) (fun J e => ?_) 0 (Nat.zero_le _) I (fun b j => by rw [if_neg (by omega)])
  · have h1 : ¬ (4 : Int32) ≤ nI k := nI_ge (b := 4) hk (by decide)
    rw [nI_succ] at ih
    simp only [u_X8_init_31]
    simp only [u_X8_init_32, u_X8_init_33, u_X8_init_36, az_un_i, az_un_r, az_un_n, az_un_l, Option.toList_some, Option.toList_none, List.cons_append, List.nil_append, List.length_cons, List.length_nil, Nat.reduceLeDiff, Nat.reduceAdd, Nat.zero_le, Nat.zero_add, and_true, true_and, zb_1, eq_self, h1, if_false]
    refine (u_X8_init_37 (b := 87) (by decide +kernel) rfl).mpr ?_
    simp only [u_X8_init_40, u_X8_init_41, u_X8_init_42, u_X8_init_43, u_X8_init_46, u_X8_init_49, az_un_i, az_un_r, az_un_n, az_un_l, Option.toList_some, Option.toList_none, List.cons_append, List.nil_append, List.length_cons, List.length_nil, Nat.reduceLeDiff, Nat.reduceAdd, Nat.zero_le, Nat.zero_add, and_true, true_and, zb_1, eq_self, az_kn_le, kd_87, zinT hk (by decide), zcl hk (by decide)]
    refine ih _ (fun b j => ?_)
    rw [az_uI_at, e b j]
    by_cases c : b = 87 ∧ j = k
    · rw [if_pos c, if_pos (by omega)]
    · rw [if_neg c]
      by_cases c2 : b = 87 ∧ j < k
      · rw [if_pos c2, if_pos (by omega)]
      · rw [if_neg c2, if_neg (by omega)]
  · have h1 : (4 : Int32) ≤ nI 4 := by decide
    have ej : J = zI8 I := funext fun b => funext fun j => e b j
    simp only [u_X8_init_31]
    simp only [u_X8_init_32, u_X8_init_33, u_X8_init_36, u_X8_init_37, u_X8_init_40, u_X8_init_41, u_X8_init_42, u_X8_init_43, u_X8_init_46, u_X8_init_49, az_un_i, az_un_r, az_un_n, az_un_l, Option.toList_some, Option.toList_none, List.cons_append, List.nil_append, List.length_cons, List.length_nil, Nat.reduceLeDiff, Nat.reduceAdd, Nat.zero_le, Nat.zero_add, and_true, true_and, zb_1, eq_self, h1, if_true, ej]
theorem s_X4_init (hz : ∀ j, I 2 j = 0) : zD (d + 1) 34 [.ref 2] (3, P, I, L) none (35, az_uP (az_uP (az_uR P 3 30) 2 0 (some 3)) 2 1 (some 34), zI4 I, L) := by
  refine zD_of zm_X4_init rfl ?_
  show az_W _ _ _ 0 [.ref 2, .null, .null] [] _
  simp only [u_X4_init_0, u_X4_init_1, u_X4_init_4, u_X4_init_5, u_X4_init_7, u_X4_init_9, u_X4_init_13, u_X4_init_16, u_X4_init_17, u_X4_init_19, u_X4_init_21, u_X4_init_24, u_X4_init_25, u_X4_init_26, u_X4_init_29, u_X4_init_30, az_un_i, az_un_r, az_un_n, az_un_l, Option.toList_some, Option.toList_none, List.cons_append, List.nil_append, List.length_cons, List.length_nil, Nat.reduceLeDiff, Nat.reduceAdd, Nat.zero_le, Nat.zero_add, and_true, true_and, zb_1, eq_self, az_kn_le, kd_2, zu0 (hz 2)]
  refine zloop (P := fun k => ∀ J v2, (∀ b j, J b j = if 4 ≤ b ∧ b < 4 + k ∧ j < 8 then -1 else I b j) → az_W (zD d) _ _ 31 [.ref 2, .int (nI k), v2] [] (35, _, J, L)) 30 (fun k hk ih J v2 e => ?_) (fun J v2 e => ?_) 0 (Nat.zero_le _) I _ (fun b j => by rw [if_neg (by omega)])
  · have h1 : ¬ (30 : Int32) ≤ nI k := nI_ge (b := 30) hk (by decide)
    rw [nI_succ] at ih
    have hk4 : az_kn 35 (4 + k) = (1, 8) := by rw [az_kn_lt (by omega), ← az_kn_lt (n := 130) (by omega)]; exact kx_m hk
    simp only [u_X4_init_31]
    simp only [u_X4_init_32, u_X4_init_34, u_X4_init_37, u_X4_init_38, az_un_i, az_un_r, az_un_n, az_un_l, Option.toList_some, Option.toList_none, List.cons_append, List.nil_append, List.length_cons, List.length_nil, Nat.reduceLeDiff, Nat.reduceAdd, Nat.zero_le, Nat.zero_add, and_true, true_and, zb_1, eq_self, h1, if_false]
    refine zloop (P := fun q => ∀ J, (∀ b j, J b j = if 4 ≤ b ∧ (b < 4 + k ∨ (b = 4 + k ∧ j < q)) ∧ j < 8 then -1 else I b j) → az_W (zD d) _ _ 39 [.ref 2, .int (nI k), .int (nI q)] [] (35, _, J, L)) 8 (fun q hq ih J e => ?_) (fun J e => ?_) 0 (Nat.zero_le _) J (fun b j => by
      rw [e b j]
      by_cases c : 4 ≤ b ∧ b < 4 + k ∧ j < 8
      · rw [if_pos c, if_pos (by omega)]
      · rw [if_neg c, if_neg (by omega)])
    · have h1 : ¬ (8 : Int32) ≤ nI q := nI_ge (b := 8) hq (by decide)
      rw [nI_succ] at ih
      simp only [u_X4_init_39]
      simp only [u_X4_init_40, u_X4_init_42, u_X4_init_45, az_un_i, az_un_r, az_un_n, az_un_l, Option.toList_some, Option.toList_none, List.cons_append, List.nil_append, List.length_cons, List.length_nil, Nat.reduceLeDiff, Nat.reduceAdd, Nat.zero_le, Nat.zero_add, and_true, true_and, zb_1, eq_self, h1, if_false]
      refine (u_X4_init_46 (b := 3) (by decide +kernel) rfl).mpr ?_
      simp only [u_X4_init_49, az_un_i, az_un_r, az_un_n, az_un_l, Option.toList_some, Option.toList_none, List.cons_append, List.nil_append, List.length_cons, List.length_nil, Nat.reduceLeDiff, Nat.reduceAdd, Nat.zero_le, Nat.zero_add, and_true, true_and, zb_1, eq_self]
      refine (u_X4_init_50 (by decide +kernel)).mpr ?_
      rw [zcl hk (by decide)]
      refine ⟨by rw [az_kn_lt (by decide), kd_3]; exact zin hk (by decide), 4 + k, ?_, ?_⟩
      · unfold az_uP az_uR
        rw [if_neg (by omega), if_neg (by omega), if_pos ⟨rfl, hk⟩]
      · simp only [u_X4_init_51, u_X4_init_52, u_X4_init_53, u_X4_init_54, u_X4_init_57, az_un_i, az_un_r, az_un_n, az_un_l, Option.toList_some, Option.toList_none, List.cons_append, List.nil_append, List.length_cons, List.length_nil, Nat.reduceLeDiff, Nat.reduceAdd, Nat.zero_le, Nat.zero_add, and_true, true_and, zb_1, eq_self, hk4, zinT hq (by decide), zcl hq (by decide)]
        refine ih _ (fun b j => ?_)
        rw [az_uI_at, e b j]
        by_cases c : b = 4 + k ∧ j = q
        · rw [if_pos c, if_pos (by omega)]
        · rw [if_neg c]
          by_cases c2 : 4 ≤ b ∧ (b < 4 + k ∨ (b = 4 + k ∧ j < q)) ∧ j < 8
          · rw [if_pos c2, if_pos (by omega)]
          · rw [if_neg c2, if_neg (by omega)]
    · have h1 : (8 : Int32) ≤ nI 8 := by decide
      simp only [u_X4_init_39]
      simp only [u_X4_init_40, u_X4_init_42, u_X4_init_60, u_X4_init_63, az_un_i, az_un_r, az_un_n, az_un_l, Option.toList_some, Option.toList_none, List.cons_append, List.nil_append, List.length_cons, List.length_nil, Nat.reduceLeDiff, Nat.reduceAdd, Nat.zero_le, Nat.zero_add, and_true, true_and, zb_1, eq_self, h1, if_true]
      refine ih J _ (fun b j => ?_)
      rw [e b j]
      by_cases c : 4 ≤ b ∧ (b < 4 + k ∨ (b = 4 + k ∧ j < 8)) ∧ j < 8
      · rw [if_pos c, if_pos (by omega)]
      · rw [if_neg c, if_neg (by omega)]
  · have h1 : (30 : Int32) ≤ nI 30 := by decide
    have ej : J = zI4 I := funext fun b => funext fun j => e b j
    simp only [u_X4_init_31]
    simp only [u_X4_init_32, u_X4_init_34, u_X4_init_66, az_un_i, az_un_r, az_un_n, az_un_l, Option.toList_some, Option.toList_none, List.cons_append, List.nil_append, List.length_cons, List.length_nil, Nat.reduceLeDiff, Nat.reduceAdd, Nat.zero_le, Nat.zero_add, and_true, true_and, zb_1, eq_self, h1, if_true, ej]
end S

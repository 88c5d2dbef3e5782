/-! ===== what the methods answer: the smallest ones ===== -/
theorem zD_of {no nL d : Nat} {k : Nat → az_P} {as : List Value} {h h' : az_H} {r : Option Value} (hm : az_M no = (nL, k)) (has : az_as nL as = true) (w : az_W (zD d) (fun r' h'' => r' = r ∧ h'' = h') k 0 (az_ini nL as) [] h) : zD (d + 1) no as h r h' := by
  refine ⟨by rw [hm]; exact has, ?_⟩
  rw [hm]; exact w
/-- a truth as an int -/
def zb (p : Prop) [Decidable p] : Int32 := if p then 1 else 0
theorem zb_t {p : Prop} [Decidable p] (h : p) : zb p = 1 := if_pos h
theorem zb_f {p : Prop} [Decidable p] (h : ¬ p) : zb p = 0 := if_neg h
theorem zb_0 {p : Prop} [Decidable p] : (zb p = 0) ↔ ¬ p := by
  unfold zb; by_cases h : p <;> simp [h]
theorem zb_1 {p : Prop} [Decidable p] : (zb p = 0 ∨ zb p = 1) := by
  unfold zb; by_cases h : p <;> simp [h]
theorem zb_c {p q : Prop} [Decidable p] [Decidable q] (h : p ↔ q) : zb p = zb q := by
  unfold zb; by_cases hp : p
  · rw [if_pos hp, if_pos (h.mp hp)]
  · rw [if_neg hp, if_neg (fun z => hp (h.mpr z))]
theorem z64 (x : Int32) : x.toInt64.toInt = x.toInt := Int32.toInt_toInt64 x
theorem zl_0 : (0 : Int32).toInt = 0 := rfl
theorem zj_0 : (0 : Int64).toInt = 0 := rfl
theorem zl_1 : (1 : Int32).toInt = 1 := rfl
theorem zj_1 : (1 : Int64).toInt = 1 := rfl
theorem zl_2 : (2 : Int32).toInt = 2 := rfl
theorem zj_2 : (2 : Int64).toInt = 2 := rfl
theorem zl_3 : (3 : Int32).toInt = 3 := rfl
theorem zj_3 : (3 : Int64).toInt = 3 := rfl
theorem zl_4 : (4 : Int32).toInt = 4 := rfl
theorem zj_4 : (4 : Int64).toInt = 4 := rfl
theorem zl_5 : (5 : Int32).toInt = 5 := rfl
theorem zj_5 : (5 : Int64).toInt = 5 := rfl
theorem zl_6 : (6 : Int32).toInt = 6 := rfl
theorem zj_6 : (6 : Int64).toInt = 6 := rfl
theorem zl_7 : (7 : Int32).toInt = 7 := rfl
theorem zj_7 : (7 : Int64).toInt = 7 := rfl
theorem zl_8 : (8 : Int32).toInt = 8 := rfl
theorem zj_8 : (8 : Int64).toInt = 8 := rfl
theorem zl_9 : (9 : Int32).toInt = 9 := rfl
theorem zj_9 : (9 : Int64).toInt = 9 := rfl
theorem zl_10 : (10 : Int32).toInt = 10 := rfl
theorem zj_10 : (10 : Int64).toInt = 10 := rfl
theorem zl_11 : (11 : Int32).toInt = 11 := rfl
theorem zj_11 : (11 : Int64).toInt = 11 := rfl
theorem zl_12 : (12 : Int32).toInt = 12 := rfl
theorem zj_12 : (12 : Int64).toInt = 12 := rfl
theorem zl_15 : (15 : Int32).toInt = 15 := rfl
theorem zj_15 : (15 : Int64).toInt = 15 := rfl
theorem zl_16 : (16 : Int32).toInt = 16 := rfl
theorem zj_16 : (16 : Int64).toInt = 16 := rfl
theorem zl_20 : (20 : Int32).toInt = 20 := rfl
theorem zj_20 : (20 : Int64).toInt = 20 := rfl
theorem zl_24 : (24 : Int32).toInt = 24 := rfl
theorem zj_24 : (24 : Int64).toInt = 24 := rfl
theorem zl_29 : (29 : Int32).toInt = 29 := rfl
theorem zj_29 : (29 : Int64).toInt = 29 := rfl
theorem zl_30 : (30 : Int32).toInt = 30 := rfl
theorem zj_30 : (30 : Int64).toInt = 30 := rfl
theorem zl_31 : (31 : Int32).toInt = 31 := rfl
theorem zj_31 : (31 : Int64).toInt = 31 := rfl
theorem zl_32 : (32 : Int32).toInt = 32 := rfl
theorem zj_32 : (32 : Int64).toInt = 32 := rfl
theorem zl_40 : (40 : Int32).toInt = 40 := rfl
theorem zj_40 : (40 : Int64).toInt = 40 := rfl
theorem zl_48 : (48 : Int32).toInt = 48 := rfl
theorem zj_48 : (48 : Int64).toInt = 48 := rfl
theorem zl_57 : (57 : Int32).toInt = 57 := rfl
theorem zj_57 : (57 : Int64).toInt = 57 := rfl
theorem zl_59 : (59 : Int32).toInt = 59 := rfl
theorem zj_59 : (59 : Int64).toInt = 59 := rfl
theorem zl_60 : (60 : Int32).toInt = 60 := rfl
theorem zj_60 : (60 : Int64).toInt = 60 := rfl
theorem zl_63 : (63 : Int32).toInt = 63 := rfl
theorem zj_63 : (63 : Int64).toInt = 63 := rfl
theorem zl_99 : (99 : Int32).toInt = 99 := rfl
theorem zj_99 : (99 : Int64).toInt = 99 := rfl
theorem zl_100 : (100 : Int32).toInt = 100 := rfl
theorem zj_100 : (100 : Int64).toInt = 100 := rfl
theorem zl_126 : (126 : Int32).toInt = 126 := rfl
theorem zj_126 : (126 : Int64).toInt = 126 := rfl
theorem zl_144 : (144 : Int32).toInt = 144 := rfl
theorem zj_144 : (144 : Int64).toInt = 144 := rfl
theorem zl_200 : (200 : Int32).toInt = 200 := rfl
theorem zj_200 : (200 : Int64).toInt = 200 := rfl
theorem zl_240 : (240 : Int32).toInt = 240 := rfl
theorem zj_240 : (240 : Int64).toInt = 240 := rfl
theorem zl_255 : (255 : Int32).toInt = 255 := rfl
theorem zj_255 : (255 : Int64).toInt = 255 := rfl
theorem zl_256 : (256 : Int32).toInt = 256 := rfl
theorem zj_256 : (256 : Int64).toInt = 256 := rfl
theorem zl_999 : (999 : Int32).toInt = 999 := rfl
theorem zj_999 : (999 : Int64).toInt = 999 := rfl
theorem zl_1000 : (1000 : Int32).toInt = 1000 := rfl
theorem zj_1000 : (1000 : Int64).toInt = 1000 := rfl
theorem zlm_1 : (-1 : Int32).toInt = -1 := rfl
theorem zjm_1 : (-1 : Int64).toInt = -1 := rfl
theorem zlm_2 : (-2 : Int32).toInt = -2 := rfl
theorem zjm_2 : (-2 : Int64).toInt = -2 := rfl
theorem zlm_3 : (-3 : Int32).toInt = -3 := rfl
theorem zjm_3 : (-3 : Int64).toInt = -3 := rfl
theorem zlm_4 : (-4 : Int32).toInt = -4 := rfl
theorem zjm_4 : (-4 : Int64).toInt = -4 := rfl
theorem zlm_11 : (-11 : Int32).toInt = -11 := rfl
theorem zjm_11 : (-11 : Int64).toInt = -11 := rfl
theorem zlm_12 : (-12 : Int32).toInt = -12 := rfl
theorem zjm_12 : (-12 : Int64).toInt = -12 := rfl
theorem zlm_13 : (-13 : Int32).toInt = -13 := rfl
theorem zjm_13 : (-13 : Int64).toInt = -13 := rfl
theorem zlm_14 : (-14 : Int32).toInt = -14 := rfl
theorem zjm_14 : (-14 : Int64).toInt = -14 := rfl
theorem zlm_20 : (-20 : Int32).toInt = -20 := rfl
theorem zjm_20 : (-20 : Int64).toInt = -20 := rfl
theorem zlm_10001 : (-10001 : Int32).toInt = -10001 := rfl
theorem zjm_10001 : (-10001 : Int64).toInt = -10001 := rfl
theorem zlm_10002 : (-10002 : Int32).toInt = -10002 := rfl
theorem zjm_10002 : (-10002 : Int64).toInt = -10002 := rfl
theorem kx_0 : az_kn 130 0 = (0, 10) := Eq.trans (b := (0, 10)) kn_0 rfl
theorem kx_1 : az_kn 130 1 = (0, 5) := Eq.trans (b := (0, 5)) kn_1 rfl
theorem kx_2 : az_kn 130 2 = (0, 4) := Eq.trans (b := (0, 4)) kn_2 rfl
theorem kx_3 : az_kn 130 3 = (3, 30) := Eq.trans (b := (3, 30)) kn_3 rfl
theorem kx_4 : az_kn 130 4 = (1, 8) := Eq.trans (b := (1, 8)) kn_4 rfl
theorem kx_5 : az_kn 130 5 = (1, 8) := Eq.trans (b := (1, 8)) kn_5 rfl
theorem kx_6 : az_kn 130 6 = (1, 8) := Eq.trans (b := (1, 8)) kn_6 rfl
theorem kx_7 : az_kn 130 7 = (1, 8) := Eq.trans (b := (1, 8)) kn_7 rfl
theorem kx_8 : az_kn 130 8 = (1, 8) := Eq.trans (b := (1, 8)) kn_8 rfl
theorem kx_9 : az_kn 130 9 = (1, 8) := Eq.trans (b := (1, 8)) kn_9 rfl
theorem kx_10 : az_kn 130 10 = (1, 8) := Eq.trans (b := (1, 8)) kn_10 rfl
theorem kx_11 : az_kn 130 11 = (1, 8) := Eq.trans (b := (1, 8)) kn_11 rfl
theorem kx_12 : az_kn 130 12 = (1, 8) := Eq.trans (b := (1, 8)) kn_12 rfl
theorem kx_13 : az_kn 130 13 = (1, 8) := Eq.trans (b := (1, 8)) kn_13 rfl
theorem kx_14 : az_kn 130 14 = (1, 8) := Eq.trans (b := (1, 8)) kn_14 rfl
theorem kx_15 : az_kn 130 15 = (1, 8) := Eq.trans (b := (1, 8)) kn_15 rfl
theorem kx_16 : az_kn 130 16 = (1, 8) := Eq.trans (b := (1, 8)) kn_16 rfl
theorem kx_17 : az_kn 130 17 = (1, 8) := Eq.trans (b := (1, 8)) kn_17 rfl
theorem kx_18 : az_kn 130 18 = (1, 8) := Eq.trans (b := (1, 8)) kn_18 rfl
theorem kx_19 : az_kn 130 19 = (1, 8) := Eq.trans (b := (1, 8)) kn_19 rfl
theorem kx_20 : az_kn 130 20 = (1, 8) := Eq.trans (b := (1, 8)) kn_20 rfl
theorem kx_21 : az_kn 130 21 = (1, 8) := Eq.trans (b := (1, 8)) kn_21 rfl
theorem kx_22 : az_kn 130 22 = (1, 8) := Eq.trans (b := (1, 8)) kn_22 rfl
theorem kx_23 : az_kn 130 23 = (1, 8) := Eq.trans (b := (1, 8)) kn_23 rfl
theorem kx_24 : az_kn 130 24 = (1, 8) := Eq.trans (b := (1, 8)) kn_24 rfl
theorem kx_25 : az_kn 130 25 = (1, 8) := Eq.trans (b := (1, 8)) kn_25 rfl
theorem kx_26 : az_kn 130 26 = (1, 8) := Eq.trans (b := (1, 8)) kn_26 rfl
theorem kx_27 : az_kn 130 27 = (1, 8) := Eq.trans (b := (1, 8)) kn_27 rfl
theorem kx_28 : az_kn 130 28 = (1, 8) := Eq.trans (b := (1, 8)) kn_28 rfl
theorem kx_29 : az_kn 130 29 = (1, 8) := Eq.trans (b := (1, 8)) kn_29 rfl
theorem kx_30 : az_kn 130 30 = (1, 8) := Eq.trans (b := (1, 8)) kn_30 rfl
theorem kx_31 : az_kn 130 31 = (1, 8) := Eq.trans (b := (1, 8)) kn_31 rfl
theorem kx_32 : az_kn 130 32 = (1, 8) := Eq.trans (b := (1, 8)) kn_32 rfl
theorem kx_33 : az_kn 130 33 = (1, 8) := Eq.trans (b := (1, 8)) kn_33 rfl
theorem kx_34 : az_kn 130 34 = (1, 8) := Eq.trans (b := (1, 8)) kn_34 rfl
theorem kx_35 : az_kn 130 35 = (0, 6) := Eq.trans (b := (0, 6)) kn_35 rfl
theorem kx_36 : az_kn 130 36 = (1, 40) := Eq.trans (b := (1, 40)) kn_36 rfl
theorem kx_37 : az_kn 130 37 = (1, 4) := Eq.trans (b := (1, 4)) kn_37 rfl
theorem kx_38 : az_kn 130 38 = (3, 4) := Eq.trans (b := (3, 4)) kn_38 rfl
theorem kx_39 : az_kn 130 39 = (1, 3) := Eq.trans (b := (1, 3)) kn_39 rfl
theorem kx_40 : az_kn 130 40 = (1, 3) := Eq.trans (b := (1, 3)) kn_40 rfl
theorem kx_41 : az_kn 130 41 = (1, 3) := Eq.trans (b := (1, 3)) kn_41 rfl
theorem kx_42 : az_kn 130 42 = (1, 3) := Eq.trans (b := (1, 3)) kn_42 rfl
theorem kx_43 : az_kn 130 43 = (1, 3) := Eq.trans (b := (1, 3)) kn_43 rfl
theorem kx_44 : az_kn 130 44 = (1, 8) := Eq.trans (b := (1, 8)) kn_44 rfl
theorem kx_45 : az_kn 130 45 = (0, 2) := Eq.trans (b := (0, 2)) kn_45 rfl
theorem kx_46 : az_kn 130 46 = (0, 2) := Eq.trans (b := (0, 2)) kn_46 rfl
theorem kx_47 : az_kn 130 47 = (0, 2) := Eq.trans (b := (0, 2)) kn_47 rfl
theorem kx_48 : az_kn 130 48 = (0, 2) := Eq.trans (b := (0, 2)) kn_48 rfl
theorem kx_49 : az_kn 130 49 = (0, 0) := Eq.trans (b := (0, 0)) kn_49 rfl
theorem kx_50 : az_kn 130 50 = (1, 12) := Eq.trans (b := (1, 12)) kn_50 rfl
theorem kx_51 : az_kn 130 51 = (1, 24) := Eq.trans (b := (1, 24)) kn_51 rfl
theorem kx_52 : az_kn 130 52 = (1, 24) := Eq.trans (b := (1, 24)) kn_52 rfl
theorem kx_53 : az_kn 130 53 = (1, 24) := Eq.trans (b := (1, 24)) kn_53 rfl
theorem kx_54 : az_kn 130 54 = (1, 24) := Eq.trans (b := (1, 24)) kn_54 rfl
theorem kx_55 : az_kn 130 55 = (1, 24) := Eq.trans (b := (1, 24)) kn_55 rfl
theorem kx_56 : az_kn 130 56 = (0, 3) := Eq.trans (b := (0, 3)) kn_56 rfl
theorem kx_57 : az_kn 130 57 = (1, 60) := Eq.trans (b := (1, 60)) kn_57 rfl
theorem kx_58 : az_kn 130 58 = (1, 60) := Eq.trans (b := (1, 60)) kn_58 rfl
theorem kx_59 : az_kn 130 59 = (1, 60) := Eq.trans (b := (1, 60)) kn_59 rfl
theorem kx_60 : az_kn 130 60 = (0, 7) := Eq.trans (b := (0, 7)) kn_60 rfl
theorem kx_61 : az_kn 130 61 = (1, 20) := Eq.trans (b := (1, 20)) kn_61 rfl
theorem kx_62 : az_kn 130 62 = (1, 20) := Eq.trans (b := (1, 20)) kn_62 rfl
theorem kx_63 : az_kn 130 63 = (0, 9) := Eq.trans (b := (0, 9)) kn_63 rfl
theorem kx_64 : az_kn 130 64 = (1, 40) := Eq.trans (b := (1, 40)) kn_64 rfl
theorem kx_65 : az_kn 130 65 = (1, 40) := Eq.trans (b := (1, 40)) kn_65 rfl
theorem kx_66 : az_kn 130 66 = (1, 40) := Eq.trans (b := (1, 40)) kn_66 rfl
theorem kx_67 : az_kn 130 67 = (1, 40) := Eq.trans (b := (1, 40)) kn_67 rfl
theorem kx_68 : az_kn 130 68 = (1, 12) := Eq.trans (b := (1, 12)) kn_68 rfl
theorem kx_69 : az_kn 130 69 = (1, 12) := Eq.trans (b := (1, 12)) kn_69 rfl
theorem kx_70 : az_kn 130 70 = (1, 12) := Eq.trans (b := (1, 12)) kn_70 rfl
theorem kx_71 : az_kn 130 71 = (0, 1) := Eq.trans (b := (0, 1)) kn_71 rfl
theorem kx_72 : az_kn 130 72 = (3, 12) := Eq.trans (b := (3, 12)) kn_72 rfl
theorem kx_73 : az_kn 130 73 = (1, 12) := Eq.trans (b := (1, 12)) kn_73 rfl
theorem kx_74 : az_kn 130 74 = (1, 12) := Eq.trans (b := (1, 12)) kn_74 rfl
theorem kx_75 : az_kn 130 75 = (1, 12) := Eq.trans (b := (1, 12)) kn_75 rfl
theorem kx_76 : az_kn 130 76 = (1, 12) := Eq.trans (b := (1, 12)) kn_76 rfl
theorem kx_77 : az_kn 130 77 = (1, 12) := Eq.trans (b := (1, 12)) kn_77 rfl
theorem kx_78 : az_kn 130 78 = (1, 12) := Eq.trans (b := (1, 12)) kn_78 rfl
theorem kx_79 : az_kn 130 79 = (1, 12) := Eq.trans (b := (1, 12)) kn_79 rfl
theorem kx_80 : az_kn 130 80 = (1, 12) := Eq.trans (b := (1, 12)) kn_80 rfl
theorem kx_81 : az_kn 130 81 = (1, 12) := Eq.trans (b := (1, 12)) kn_81 rfl
theorem kx_82 : az_kn 130 82 = (1, 12) := Eq.trans (b := (1, 12)) kn_82 rfl
theorem kx_83 : az_kn 130 83 = (1, 12) := Eq.trans (b := (1, 12)) kn_83 rfl
theorem kx_84 : az_kn 130 84 = (1, 12) := Eq.trans (b := (1, 12)) kn_84 rfl
theorem kx_85 : az_kn 130 85 = (1, 12) := Eq.trans (b := (1, 12)) kn_85 rfl
theorem kx_86 : az_kn 130 86 = (0, 8) := Eq.trans (b := (0, 8)) kn_86 rfl
theorem kx_87 : az_kn 130 87 = (1, 4) := Eq.trans (b := (1, 4)) kn_87 rfl
theorem kx_88 : az_kn 130 88 = (1, 4) := Eq.trans (b := (1, 4)) kn_88 rfl
theorem kx_89 : az_kn 130 89 = (3, 4) := Eq.trans (b := (3, 4)) kn_89 rfl
theorem kx_90 : az_kn 130 90 = (1, 16) := Eq.trans (b := (1, 16)) kn_90 rfl
theorem kx_91 : az_kn 130 91 = (1, 16) := Eq.trans (b := (1, 16)) kn_91 rfl
theorem kx_92 : az_kn 130 92 = (1, 16) := Eq.trans (b := (1, 16)) kn_92 rfl
theorem kx_93 : az_kn 130 93 = (1, 16) := Eq.trans (b := (1, 16)) kn_93 rfl
theorem kx_94 : az_kn 130 94 = (0, 2) := Eq.trans (b := (0, 2)) kn_94 rfl
theorem kx_95 : az_kn 130 95 = (0, 2) := Eq.trans (b := (0, 2)) kn_95 rfl
theorem kx_96 : az_kn 130 96 = (1, 8) := Eq.trans (b := (1, 8)) kn_96 rfl
theorem kx_97 : az_kn 130 97 = (0, 11) := Eq.trans (b := (0, 11)) kn_97 rfl
theorem kx_98 : az_kn 130 98 = (1, 240) := Eq.trans (b := (1, 240)) kn_98 rfl
theorem kx_99 : az_kn 130 99 = (1, 40) := Eq.trans (b := (1, 40)) kn_99 rfl
theorem kx_100 : az_kn 130 100 = (1, 4) := Eq.trans (b := (1, 4)) kn_100 rfl
theorem kx_101 : az_kn 130 101 = (1, 12) := Eq.trans (b := (1, 12)) kn_101 rfl
theorem kx_102 : az_kn 130 102 = (1, 3) := Eq.trans (b := (1, 3)) kn_102 rfl
theorem kx_103 : az_kn 130 103 = (1, 3) := Eq.trans (b := (1, 3)) kn_103 rfl
theorem kx_104 : az_kn 130 104 = (1, 3) := Eq.trans (b := (1, 3)) kn_104 rfl
theorem kx_105 : az_kn 130 105 = (1, 3) := Eq.trans (b := (1, 3)) kn_105 rfl
theorem kx_106 : az_kn 130 106 = (1, 8) := Eq.trans (b := (1, 8)) kn_106 rfl
theorem kx_107 : az_kn 130 107 = (1, 8) := Eq.trans (b := (1, 8)) kn_107 rfl
theorem kx_108 : az_kn 130 108 = (1, 12) := Eq.trans (b := (1, 12)) kn_108 rfl
theorem kx_109 : az_kn 130 109 = (1, 24) := Eq.trans (b := (1, 24)) kn_109 rfl
theorem kx_110 : az_kn 130 110 = (1, 24) := Eq.trans (b := (1, 24)) kn_110 rfl
theorem kx_111 : az_kn 130 111 = (1, 24) := Eq.trans (b := (1, 24)) kn_111 rfl
theorem kx_112 : az_kn 130 112 = (1, 24) := Eq.trans (b := (1, 24)) kn_112 rfl
theorem kx_113 : az_kn 130 113 = (1, 24) := Eq.trans (b := (1, 24)) kn_113 rfl
theorem kx_114 : az_kn 130 114 = (1, 60) := Eq.trans (b := (1, 60)) kn_114 rfl
theorem kx_115 : az_kn 130 115 = (1, 60) := Eq.trans (b := (1, 60)) kn_115 rfl
theorem kx_116 : az_kn 130 116 = (1, 60) := Eq.trans (b := (1, 60)) kn_116 rfl
theorem kx_117 : az_kn 130 117 = (1, 20) := Eq.trans (b := (1, 20)) kn_117 rfl
theorem kx_118 : az_kn 130 118 = (1, 20) := Eq.trans (b := (1, 20)) kn_118 rfl
theorem kx_119 : az_kn 130 119 = (1, 40) := Eq.trans (b := (1, 40)) kn_119 rfl
theorem kx_120 : az_kn 130 120 = (1, 40) := Eq.trans (b := (1, 40)) kn_120 rfl
theorem kx_121 : az_kn 130 121 = (1, 40) := Eq.trans (b := (1, 40)) kn_121 rfl
theorem kx_122 : az_kn 130 122 = (1, 40) := Eq.trans (b := (1, 40)) kn_122 rfl
theorem kx_123 : az_kn 130 123 = (2, 144) := Eq.trans (b := (2, 144)) kn_123 rfl
theorem kx_124 : az_kn 130 124 = (1, 144) := Eq.trans (b := (1, 144)) kn_124 rfl
theorem kx_125 : az_kn 130 125 = (1, 12) := Eq.trans (b := (1, 12)) kn_125 rfl
theorem kx_126 : az_kn 130 126 = (1, 40) := Eq.trans (b := (1, 40)) kn_126 rfl
theorem kx_127 : az_kn 130 127 = (1, 4) := Eq.trans (b := (1, 4)) kn_127 rfl
theorem kx_128 : az_kn 130 128 = (1, 4) := Eq.trans (b := (1, 4)) kn_128 rfl
theorem kx_129 : az_kn 130 129 = (1, 64) := Eq.trans (b := (1, 64)) kn_129 rfl
theorem kx_9000 : az_kn 130 9000 = (4, 3) := Eq.trans (b := (4, 3)) kn_9000 rfl
theorem kx_9001 : az_kn 130 9001 = (4, 3) := Eq.trans (b := (4, 3)) kn_9001 rfl
theorem kx_9002 : az_kn 130 9002 = (4, 3) := Eq.trans (b := (4, 3)) kn_9002 rfl
section S
variable {d : Nat} {I : Nat → Nat → Int32} {L : Nat → Nat → Int64} {h : az_H}
theorem s_X10_isIn {x y z : Int32} : zD (d + 1) 129 [.int x, .int y, .int z] h (some (.int (zb (y.toInt ≤ x.toInt ∧ x.toInt ≤ z.toInt)))) h := by
  refine zD_of zm_X10_isIn rfl ?_
  show az_W _ _ _ 0 [.int x, .int y, .int z] [] _
  simp only [u_X10_isIn_0, u_X10_isIn_1, u_X10_isIn_2, u_X10_isIn_5, u_X10_isIn_6, u_X10_isIn_7, u_X10_isIn_10, u_X10_isIn_11, u_X10_isIn_14, u_X10_isIn_15, az_un_i, az_un_r, az_un_n, az_un_l, Option.toList_some, Option.toList_none, List.cons_append, List.nil_append, List.length_cons, List.length_nil, Nat.reduceLeDiff, Nat.reduceAdd, Nat.zero_le, Nat.zero_add, and_true, true_and, zb_1, eq_self]
  simp only [Int32.lt_iff_toInt_lt, Int32.le_iff_toInt_le, zb]
  (repeat' split) <;> first | (simp; done) | (exfalso; omega)
theorem s_X10_isBit {x : Int32} : zD (d + 1) 130 [.int x] h (some (.int (zb (0 ≤ x.toInt ∧ x.toInt ≤ 1)))) h := by
  refine zD_of zm_X10_isBit rfl ?_
  show az_W _ _ _ 0 [.int x] [] _
  simp only [u_X10_isBit_0, u_X10_isBit_1, u_X10_isBit_4, u_X10_isBit_5, u_X10_isBit_6, u_X10_isBit_9, u_X10_isBit_10, u_X10_isBit_13, u_X10_isBit_14, az_un_i, az_un_r, az_un_n, az_un_l, Option.toList_some, Option.toList_none, List.cons_append, List.nil_append, List.length_cons, List.length_nil, Nat.reduceLeDiff, Nat.reduceAdd, Nat.zero_le, Nat.zero_add, and_true, true_and, zb_1, eq_self]
  simp only [← Int32.toInt_inj, zb]
  (repeat' split) <;> first | (simp; done) | (exfalso; simp at *; omega)
theorem s_X10_isHouse {x : Int32} : zD (d + 1) 131 [.int x] h (some (.int (zb (0 ≤ x.toInt ∧ x.toInt ≤ 7)))) h := by
  refine zD_of zm_X10_isHouse rfl ?_
  show az_W _ _ _ 0 [.int x] [] _
  simp only [u_X10_isHouse_0, u_X10_isHouse_1, u_X10_isHouse_4, u_X10_isHouse_5, u_X10_isHouse_7, u_X10_isHouse_10, u_X10_isHouse_11, u_X10_isHouse_14, u_X10_isHouse_15, az_un_i, az_un_r, az_un_n, az_un_l, Option.toList_some, Option.toList_none, List.cons_append, List.nil_append, List.length_cons, List.length_nil, Nat.reduceLeDiff, Nat.reduceAdd, Nat.zero_le, Nat.zero_add, and_true, true_and, zb_1, eq_self]
  simp only [Int32.lt_iff_toInt_lt, Int32.le_iff_toInt_le, zb]
  (repeat' split) <;> first | (simp; done) | (exfalso; simp at *; omega)
theorem s_X10_isMorning {x : Int32} : zD (d + 1) 132 [.int x] h (some (.int (zb (0 ≤ x.toInt ∧ x.toInt ≤ 29)))) h := by
  refine zD_of zm_X10_isMorning rfl ?_
  show az_W _ _ _ 0 [.int x] [] _
  simp only [u_X10_isMorning_0, u_X10_isMorning_1, u_X10_isMorning_4, u_X10_isMorning_5, u_X10_isMorning_7, u_X10_isMorning_10, u_X10_isMorning_11, u_X10_isMorning_14, u_X10_isMorning_15, az_un_i, az_un_r, az_un_n, az_un_l, Option.toList_some, Option.toList_none, List.cons_append, List.nil_append, List.length_cons, List.length_nil, Nat.reduceLeDiff, Nat.reduceAdd, Nat.zero_le, Nat.zero_add, and_true, true_and, zb_1, eq_self]
  simp only [Int32.lt_iff_toInt_lt, Int32.le_iff_toInt_le, zb]
  (repeat' split) <;> first | (simp; done) | (exfalso; simp at *; omega)
theorem s_X10_isSayable {x : Int32} : zD (d + 2) 133 [.int x] h (some (.int (zb (-1 ≤ x.toInt ∧ x.toInt ≤ 999)))) h := by
  refine zD_of zm_X10_isSayable rfl ?_
  show az_W _ _ _ 0 [.int x] [] _
  simp only [u_X10_isSayable_0, u_X10_isSayable_1, u_X10_isSayable_2, u_X10_isSayable_5, u_X10_isSayable_8, az_un_i, az_un_r, az_un_n, az_un_l, Option.toList_some, Option.toList_none, List.cons_append, List.nil_append, List.length_cons, List.length_nil, Nat.reduceLeDiff, Nat.reduceAdd, Nat.zero_le, Nat.zero_add, and_true, true_and, zb_1, eq_self, az_call s_X10_isIn]
  rfl
theorem s_X11_in {x y z : Int64} : zD (d + 1) 139 [.long x, .long y, .long z] h (some (.int (zb (y.toInt ≤ x.toInt ∧ x.toInt ≤ z.toInt)))) h := by
  refine zD_of zm_X11_in rfl ?_
  show az_W _ _ _ 0 [.long x, .null, .long y, .null, .long z, .null] [] _
  simp only [u_X11_in_0, u_X11_in_1, u_X11_in_2, u_X11_in_3, u_X11_in_6, u_X11_in_7, u_X11_in_9, u_X11_in_10, u_X11_in_13, u_X11_in_14, u_X11_in_17, u_X11_in_18, az_un_i, az_un_r, az_un_n, az_un_l, Option.toList_some, Option.toList_none, List.cons_append, List.nil_append, List.length_cons, List.length_nil, Nat.reduceLeDiff, Nat.reduceAdd, Nat.zero_le, Nat.zero_add, and_true, true_and, zb_1, eq_self]
  simp only [lg_cmp_lt, lg_cmp_gt, Int64.lt_iff_toInt_lt, zb]
  (repeat' split) <;> first | (simp; done) | (exfalso; omega)
theorem s_X11_isHouse {x : Int32} : zD (d + 2) 141 [.int x] h (some (.int (zb (0 ≤ x.toInt ∧ x.toInt ≤ 7)))) h := by
  refine zD_of zm_X11_isHouse rfl ?_
  show az_W _ _ _ 0 [.int x] [] _
  simp only [u_X11_isHouse_0, u_X11_isHouse_1, u_X11_isHouse_2, u_X11_isHouse_3, u_X11_isHouse_6, u_X11_isHouse_9, az_un_i, az_un_r, az_un_n, az_un_l, Option.toList_some, Option.toList_none, List.cons_append, List.nil_append, List.length_cons, List.length_nil, Nat.reduceLeDiff, Nat.reduceAdd, Nat.zero_le, Nat.zero_add, and_true, true_and, zb_1, eq_self, az_call s_X11_in, z64]
  rfl
theorem s_X11_isMorning {x : Int32} : zD (d + 2) 142 [.int x] h (some (.int (zb (0 ≤ x.toInt ∧ x.toInt ≤ 29)))) h := by
  refine zD_of zm_X11_isMorning rfl ?_
  show az_W _ _ _ 0 [.int x] [] _
  simp only [u_X11_isMorning_0, u_X11_isMorning_1, u_X11_isMorning_2, u_X11_isMorning_3, u_X11_isMorning_6, u_X11_isMorning_9, az_un_i, az_un_r, az_un_n, az_un_l, Option.toList_some, Option.toList_none, List.cons_append, List.nil_append, List.length_cons, List.length_nil, Nat.reduceLeDiff, Nat.reduceAdd, Nat.zero_le, Nat.zero_add, and_true, true_and, zb_1, eq_self, az_call s_X11_in, z64]
  rfl
theorem s_X11_isWhat {x : Int32} : zD (d + 2) 145 [.int x] h (some (.int (zb (0 ≤ x.toInt ∧ x.toInt ≤ 1)))) h := by
  refine zD_of zm_X11_isWhat rfl ?_
  show az_W _ _ _ 0 [.int x] [] _
  simp only [u_X11_isWhat_0, u_X11_isWhat_1, u_X11_isWhat_2, u_X11_isWhat_3, u_X11_isWhat_4, u_X11_isWhat_7, az_un_i, az_un_r, az_un_n, az_un_l, Option.toList_some, Option.toList_none, List.cons_append, List.nil_append, List.length_cons, List.length_nil, Nat.reduceLeDiff, Nat.reduceAdd, Nat.zero_le, Nat.zero_add, and_true, true_and, zb_1, eq_self, az_call s_X11_in, z64]
  rfl
theorem s_X11_isSaid {x : Int32} : zD (d + 2) 146 [.int x] h (some (.int (zb (-1 ≤ x.toInt ∧ x.toInt ≤ 999)))) h := by
  refine zD_of zm_X11_isSaid rfl ?_
  show az_W _ _ _ 0 [.int x] [] _
  simp only [u_X11_isSaid_0, u_X11_isSaid_1, u_X11_isSaid_2, u_X11_isSaid_5, u_X11_isSaid_8, u_X11_isSaid_11, az_un_i, az_un_r, az_un_n, az_un_l, Option.toList_some, Option.toList_none, List.cons_append, List.nil_append, List.length_cons, List.length_nil, Nat.reduceLeDiff, Nat.reduceAdd, Nat.zero_le, Nat.zero_add, and_true, true_and, zb_1, eq_self, az_call s_X11_in, z64]
  rfl
theorem s_X0_has {x : Int32} : zD (d + 1) 3 [.ref 49, .int x] (130, az_Pf, I, L) (some (.int (zb (0 ≤ x.toInt ∧ x.toInt < (I 49 1).toInt)))) (130, az_Pf, I, L) := by
  refine zD_of zm_X0_has rfl ?_
  show az_W _ _ _ 0 [.ref 49, .int x] [] _
  simp only [u_X0_has_0, u_X0_has_1, u_X0_has_4, u_X0_has_5, u_X0_has_6, u_X0_has_9, u_X0_has_12, u_X0_has_13, u_X0_has_16, u_X0_has_17, az_un_i, az_un_r, az_un_n, az_un_l, Option.toList_some, Option.toList_none, List.cons_append, List.nil_append, List.length_cons, List.length_nil, Nat.reduceLeDiff, Nat.reduceAdd, Nat.zero_le, Nat.zero_add, and_true, true_and, zb_1, eq_self]
  simp only [Int32.lt_iff_toInt_lt, Int32.le_iff_toInt_le, zb]
  (repeat' split) <;> first | (simp; done) | (exfalso; simp at *; omega)
end S

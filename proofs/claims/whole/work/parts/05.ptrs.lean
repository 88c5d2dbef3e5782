/-! ===== where the references of the finished objects lead ===== -/
def az_Px : Nat → Nat → Option Nat := (az_uP (az_uP (az_uP (az_uP (az_uP (az_uR (az_uP (az_uP (az_uP (az_uP (az_uP (az_uR (az_uP (az_uP (az_uP (az_uP (az_uP (az_uP (az_uP (az_uP (az_uP (az_uP (az_uP (az_uP (az_uP (az_uP (az_uP (az_uP (az_uP (az_uP (az_uP (az_uP (az_uP (az_uP (az_uP (az_uP (az_uP (az_uP (az_uP (az_uP (az_uP (az_uP (az_uP (az_uP (az_uP (az_uR (az_uP (az_uP (az_uP (az_uP (az_uP (az_uR (fun _ _ => none) 3 30) 2 0 (some 3)) 2 1 (some 34)) 1 0 (some 2)) 35 0 (some 36)) 35 2 (some 37)) 38 4) 35 3 (some 38)) 35 5 (some 43)) 1 1 (some 35)) 1 2 (some 44)) 1 3 (some 45)) 1 4 (some 46)) 1 5 (some 47)) 1 6 (some 48)) 0 0 (some 1)) 0 1 (some 2)) 0 2 (some 35)) 49 0 (some 50)) 49 2 (some 51)) 49 3 (some 52)) 49 4 (some 53)) 49 5 (some 54)) 49 6 (some 55)) 0 3 (some 49)) 56 0 (some 57)) 56 1 (some 58)) 56 2 (some 59)) 0 4 (some 56)) 60 0 (some 61)) 60 1 (some 62)) 0 5 (some 60)) 63 0 (some 64)) 63 1 (some 65)) 63 2 (some 66)) 63 3 (some 67)) 63 5 (some 68)) 63 6 (some 69)) 63 7 (some 70)) 0 6 (some 63)) 72 12) 71 0 (some 72)) 71 1 (some 85)) 0 7 (some 71)) 86 0 (some 87)) 86 1 (some 88)) 89 4) 86 2 (some 89)) 0 8 (some 86)) 0 9 (some 94)) 0 10 (some 95)) 0 11 (some 96))
def az_Pf : Nat → Nat → Option Nat := (az_uP (az_uP (az_uP (az_uP (az_uP (az_uP (az_uP (az_uP (az_uP (az_uP (az_uP (az_uP (az_uP (az_uP (az_uP (az_uP (az_uP (az_uP (az_uP (az_uP (az_uP (az_uP (az_uP (az_uP (az_uP (az_uP (az_uP (az_uP (az_uP (az_uP (az_uP (az_uP az_Px 97 0 (some 98)) 97 1 (some 99)) 97 5 (some 100)) 97 6 (some 101)) 97 7 (some 102)) 97 8 (some 103)) 97 9 (some 104)) 97 10 (some 105)) 97 11 (some 106)) 97 12 (some 107)) 97 18 (some 108)) 97 20 (some 109)) 97 21 (some 110)) 97 22 (some 111)) 97 23 (some 112)) 97 24 (some 113)) 97 26 (some 114)) 97 27 (some 115)) 97 28 (some 116)) 97 32 (some 117)) 97 33 (some 118)) 97 35 (some 119)) 97 36 (some 120)) 97 37 (some 121)) 97 38 (some 122)) 97 39 (some 123)) 97 40 (some 124)) 97 41 (some 125)) 97 42 (some 126)) 97 47 (some 127)) 97 48 (some 128)) 97 49 (some 129))
theorem pf_0_0 : az_Pf 0 0 = some 1 := rfl
theorem pf_0_1 : az_Pf 0 1 = some 2 := rfl
theorem pf_0_2 : az_Pf 0 2 = some 35 := rfl
theorem pf_0_3 : az_Pf 0 3 = some 49 := rfl
theorem pf_0_4 : az_Pf 0 4 = some 56 := rfl
theorem pf_0_5 : az_Pf 0 5 = some 60 := rfl
theorem pf_0_6 : az_Pf 0 6 = some 63 := rfl
theorem pf_0_7 : az_Pf 0 7 = some 71 := rfl
theorem pf_0_8 : az_Pf 0 8 = some 86 := rfl
theorem pf_0_9 : az_Pf 0 9 = some 94 := rfl
theorem pf_0_10 : az_Pf 0 10 = some 95 := rfl
theorem pf_0_11 : az_Pf 0 11 = some 96 := rfl
theorem pf_1_0 : az_Pf 1 0 = some 2 := rfl
theorem pf_1_1 : az_Pf 1 1 = some 35 := rfl
theorem pf_1_2 : az_Pf 1 2 = some 44 := rfl
theorem pf_1_3 : az_Pf 1 3 = some 45 := rfl
theorem pf_1_4 : az_Pf 1 4 = some 46 := rfl
theorem pf_1_5 : az_Pf 1 5 = some 47 := rfl
theorem pf_1_6 : az_Pf 1 6 = some 48 := rfl
theorem pf_2_0 : az_Pf 2 0 = some 3 := rfl
theorem pf_2_1 : az_Pf 2 1 = some 34 := rfl
theorem pf_35_0 : az_Pf 35 0 = some 36 := rfl
theorem pf_35_2 : az_Pf 35 2 = some 37 := rfl
theorem pf_35_3 : az_Pf 35 3 = some 38 := rfl
theorem pf_35_5 : az_Pf 35 5 = some 43 := rfl
theorem pf_49_0 : az_Pf 49 0 = some 50 := rfl
theorem pf_49_2 : az_Pf 49 2 = some 51 := rfl
theorem pf_49_3 : az_Pf 49 3 = some 52 := rfl
theorem pf_49_4 : az_Pf 49 4 = some 53 := rfl
theorem pf_49_5 : az_Pf 49 5 = some 54 := rfl
theorem pf_49_6 : az_Pf 49 6 = some 55 := rfl
theorem pf_56_0 : az_Pf 56 0 = some 57 := rfl
theorem pf_56_1 : az_Pf 56 1 = some 58 := rfl
theorem pf_56_2 : az_Pf 56 2 = some 59 := rfl
theorem pf_60_0 : az_Pf 60 0 = some 61 := rfl
theorem pf_60_1 : az_Pf 60 1 = some 62 := rfl
theorem pf_63_0 : az_Pf 63 0 = some 64 := rfl
theorem pf_63_1 : az_Pf 63 1 = some 65 := rfl
theorem pf_63_2 : az_Pf 63 2 = some 66 := rfl
theorem pf_63_3 : az_Pf 63 3 = some 67 := rfl
theorem pf_63_5 : az_Pf 63 5 = some 68 := rfl
theorem pf_63_6 : az_Pf 63 6 = some 69 := rfl
theorem pf_63_7 : az_Pf 63 7 = some 70 := rfl
theorem pf_71_0 : az_Pf 71 0 = some 72 := rfl
theorem pf_71_1 : az_Pf 71 1 = some 85 := rfl
theorem pf_86_0 : az_Pf 86 0 = some 87 := rfl
theorem pf_86_1 : az_Pf 86 1 = some 88 := rfl
theorem pf_86_2 : az_Pf 86 2 = some 89 := rfl
theorem pf_97_0 : az_Pf 97 0 = some 98 := rfl
theorem pf_97_1 : az_Pf 97 1 = some 99 := rfl
theorem pf_97_5 : az_Pf 97 5 = some 100 := rfl
theorem pf_97_6 : az_Pf 97 6 = some 101 := rfl
theorem pf_97_7 : az_Pf 97 7 = some 102 := rfl
theorem pf_97_8 : az_Pf 97 8 = some 103 := rfl
theorem pf_97_9 : az_Pf 97 9 = some 104 := rfl
theorem pf_97_10 : az_Pf 97 10 = some 105 := rfl
theorem pf_97_11 : az_Pf 97 11 = some 106 := rfl
theorem pf_97_12 : az_Pf 97 12 = some 107 := rfl
theorem pf_97_18 : az_Pf 97 18 = some 108 := rfl
theorem pf_97_20 : az_Pf 97 20 = some 109 := rfl
theorem pf_97_21 : az_Pf 97 21 = some 110 := rfl
theorem pf_97_22 : az_Pf 97 22 = some 111 := rfl
theorem pf_97_23 : az_Pf 97 23 = some 112 := rfl
theorem pf_97_24 : az_Pf 97 24 = some 113 := rfl
theorem pf_97_26 : az_Pf 97 26 = some 114 := rfl
theorem pf_97_27 : az_Pf 97 27 = some 115 := rfl
theorem pf_97_28 : az_Pf 97 28 = some 116 := rfl
theorem pf_97_32 : az_Pf 97 32 = some 117 := rfl
theorem pf_97_33 : az_Pf 97 33 = some 118 := rfl
theorem pf_97_35 : az_Pf 97 35 = some 119 := rfl
theorem pf_97_36 : az_Pf 97 36 = some 120 := rfl
theorem pf_97_37 : az_Pf 97 37 = some 121 := rfl
theorem pf_97_38 : az_Pf 97 38 = some 122 := rfl
theorem pf_97_39 : az_Pf 97 39 = some 123 := rfl
theorem pf_97_40 : az_Pf 97 40 = some 124 := rfl
theorem pf_97_41 : az_Pf 97 41 = some 125 := rfl
theorem pf_97_42 : az_Pf 97 42 = some 126 := rfl
theorem pf_97_47 : az_Pf 97 47 = some 127 := rfl
theorem pf_97_48 : az_Pf 97 48 = some 128 := rfl
theorem pf_97_49 : az_Pf 97 49 = some 129 := rfl
theorem pr_3 : ∀ j, j < 30 → az_Pf 3 j = some (4 + j) := by decide +kernel
theorem kr_3 : ∀ j, j < 30 → az_kn 130 (4 + j) = (1, 8) := by decide +kernel
theorem pr_38 : ∀ j, j < 4 → az_Pf 38 j = some (39 + j) := by decide +kernel
theorem kr_38 : ∀ j, j < 4 → az_kn 130 (39 + j) = (1, 3) := by decide +kernel
theorem pr_72 : ∀ j, j < 12 → az_Pf 72 j = some (73 + j) := by decide +kernel
theorem kr_72 : ∀ j, j < 12 → az_kn 130 (73 + j) = (1, 12) := by decide +kernel
theorem pr_89 : ∀ j, j < 4 → az_Pf 89 j = some (90 + j) := by decide +kernel
theorem kr_89 : ∀ j, j < 4 → az_kn 130 (90 + j) = (1, 16) := by decide +kernel
theorem az_k1 {n a k : Nat} (h : (az_kn n a).1 = k) : az_kn n a = (k, (az_kn n a).2) := by rw [← h]

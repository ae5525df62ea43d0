/-! the shape, object by object -/
theorem xf_0_0 : xfld 0 7 0 = some (some (.ref 1)) := rfl
theorem xf_0_1 : xfld 0 7 1 = some (some (.ref 2)) := rfl
theorem xf_0_2 : xfld 0 7 2 = some (some (.ref 3)) := rfl
theorem xf_0_3 : xfld 0 7 3 = some (some (.ref 4)) := rfl
theorem xf_0_4 : xfld 0 7 4 = some (some (.ref 5)) := rfl
theorem xf_0_5 : xfld 0 7 5 = some (none) := rfl
theorem xf_0_6 : xfld 0 7 6 = some (none) := rfl
theorem xf_0_7 : xfld 0 7 7 = some (none) := rfl
theorem xf_0_8 : xfld 0 7 8 = some (none) := rfl
theorem xf_0_9 : xfld 0 7 9 = some (none) := rfl
theorem xf_1_0 : xfld 1 0 0 = some (some (.ref 6)) := rfl
theorem xf_1_1 : xfld 1 0 1 = some (some (.ref 7)) := rfl
theorem xf_1_2 : xfld 1 0 2 = some (some (.ref 8)) := rfl
theorem xf_1_3 : xfld 1 0 3 = some (some (.ref 9)) := rfl
theorem xf_1_4 : xfld 1 0 4 = some (some (.ref 10)) := rfl
theorem xf_2_0 : xfld 2 5 0 = some (some (.ref 1)) := rfl
theorem xf_2_1 : xfld 2 5 1 = some (some (.ref 17)) := rfl
theorem xf_2_2 : xfld 2 5 2 = some (some (.ref 18)) := rfl
theorem xf_2_3 : xfld 2 5 3 = some (some (.ref 19)) := rfl
theorem xf_2_4 : xfld 2 5 4 = some (some (.ref 20)) := rfl
theorem xf_2_5 : xfld 2 5 5 = some (some (.ref 21)) := rfl
theorem xf_2_6 : xfld 2 5 6 = some (some (.ref 22)) := rfl
theorem xf_2_7 : xfld 2 5 7 = some (none) := rfl
theorem xf_3_0 : xfld 3 1 0 = some (some (.ref 1)) := rfl
theorem xf_3_1 : xfld 3 1 1 = some (some (.ref 2)) := rfl
theorem xf_3_2 : xfld 3 1 2 = some (some (.ref 23)) := rfl
theorem xf_3_3 : xfld 3 1 3 = some (some (.ref 24)) := rfl
theorem xf_3_4 : xfld 3 1 4 = some (some (.ref 25)) := rfl
theorem xf_3_5 : xfld 3 1 5 = some (some (.ref 11)) := rfl
theorem xf_3_6 : xfld 3 1 6 = some (none) := rfl
theorem xf_3_7 : xfld 3 1 7 = some (none) := rfl
theorem xf_4_0 : xfld 4 4 0 = some (some (.ref 1)) := rfl
theorem xf_4_1 : xfld 4 4 1 = some (some (.ref 2)) := rfl
theorem xf_4_2 : xfld 4 4 2 = some (some (.ref 3)) := rfl
theorem xf_4_3 : xfld 4 4 3 = some (some (.ref 12)) := rfl
theorem xf_4_4 : xfld 4 4 4 = some (none) := rfl
theorem xf_4_5 : xfld 4 4 5 = some (none) := rfl
theorem xf_4_6 : xfld 4 4 6 = some (none) := rfl
theorem xf_5_0 : xfld 5 2 0 = some (some (.ref 13)) := rfl
theorem xf_5_1 : xfld 5 2 1 = some (some (.ref 14)) := rfl
theorem xf_5_2 : xfld 5 2 2 = some (some (.ref 26)) := rfl
theorem xf_5_3 : xfld 5 2 3 = some (some (.ref 15)) := rfl
theorem xf_5_4 : xfld 5 2 4 = some (some (.ref 27)) := rfl
theorem xf_5_5 : xfld 5 2 5 = some (some (.ref 16)) := rfl
theorem xf_5_6 : xfld 5 2 6 = some (some (.ref 28)) := rfl
theorem xf_5_7 : xfld 5 2 7 = some (some (.ref 29)) := rfl
theorem xf_6_3 : xfld 6 6 3 = some (none) := rfl
theorem xf_7_3 : xfld 7 6 3 = some (none) := rfl
theorem xf_8_3 : xfld 8 6 3 = some (none) := rfl
theorem xf_9_3 : xfld 9 6 3 = some (none) := rfl
theorem xf_10_3 : xfld 10 6 3 = some (none) := rfl
theorem xf_11_3 : xfld 11 6 3 = some (none) := rfl
theorem xf_12_3 : xfld 12 6 3 = some (none) := rfl
theorem xf_13_3 : xfld 13 6 3 = some (none) := rfl
theorem xf_14_3 : xfld 14 6 3 = some (none) := rfl
theorem xf_15_3 : xfld 15 6 3 = some (none) := rfl
theorem xf_16_3 : xfld 16 6 3 = some (none) := rfl
theorem xf_30_0 : xfld 30 8 0 = some (some (.ref 55)) := rfl
theorem xf_30_1 : xfld 30 8 1 = some (none) := rfl
theorem xf_30_2 : xfld 30 8 2 = some (some (.ref 56)) := rfl
theorem xf_30_3 : xfld 30 8 3 = some (some (.ref 57)) := rfl
theorem xf_30_4 : xfld 30 8 4 = some (some (.ref 58)) := rfl
theorem xf_30_5 : xfld 30 8 5 = some (some (.ref 59)) := rfl
theorem xf_30_6 : xfld 30 8 6 = some (some (.ref 60)) := rfl
theorem xf_30_7 : xfld 30 8 7 = some (some (.ref 61)) := rfl
theorem xf_30_8 : xfld 30 8 8 = some (none) := rfl
theorem xf_30_9 : xfld 30 8 9 = some (some (.ref 62)) := rfl
theorem xf_30_10 : xfld 30 8 10 = some (some (.ref 63)) := rfl
theorem xf_30_11 : xfld 30 8 11 = some (some (.ref 64)) := rfl
theorem xf_30_12 : xfld 30 8 12 = some (some (.ref 65)) := rfl
theorem xf_30_13 : xfld 30 8 13 = some (none) := rfl
theorem xf_30_14 : xfld 30 8 14 = some (some (.ref 66)) := rfl
theorem xf_30_15 : xfld 30 8 15 = some (some (.ref 67)) := rfl
theorem xf_30_16 : xfld 30 8 16 = some (some (.ref 68)) := rfl
theorem xf_30_17 : xfld 30 8 17 = some (some (.ref 69)) := rfl
theorem xf_30_18 : xfld 30 8 18 = some (some (.ref 70)) := rfl
theorem xf_30_19 : xfld 30 8 19 = some (none) := rfl
theorem xf_30_20 : xfld 30 8 20 = some (none) := rfl
theorem xf_30_21 : xfld 30 8 21 = some (none) := rfl
theorem xf_30_22 : xfld 30 8 22 = some (none) := rfl
theorem xf_30_23 : xfld 30 8 23 = some (none) := rfl
theorem xf_30_24 : xfld 30 8 24 = some (none) := rfl
theorem xf_30_25 : xfld 30 8 25 = some (some (.ref 71)) := rfl
theorem xf_30_26 : xfld 30 8 26 = some (some (.ref 72)) := rfl
theorem xf_30_27 : xfld 30 8 27 = some (some (.ref 73)) := rfl
theorem xf_30_28 : xfld 30 8 28 = some (some (.ref 74)) := rfl
theorem xf_30_29 : xfld 30 8 29 = some (some (.ref 75)) := rfl
theorem xf_30_30 : xfld 30 8 30 = some (some (.ref 76)) := rfl
theorem xf_30_31 : xfld 30 8 31 = some (some (.ref 77)) := rfl
theorem xf_30_32 : xfld 30 8 32 = some (some (.ref 78)) := rfl
theorem xf_30_33 : xfld 30 8 33 = some (some (.ref 79)) := rfl
theorem xf_30_34 : xfld 30 8 34 = some (some (.ref 80)) := rfl
theorem xf_30_35 : xfld 30 8 35 = some (none) := rfl
theorem xf_30_36 : xfld 30 8 36 = some (none) := rfl
theorem xf_30_37 : xfld 30 8 37 = some (none) := rfl
theorem xf_30_38 : xfld 30 8 38 = some (none) := rfl
theorem xf_30_39 : xfld 30 8 39 = some (some (.ref 81)) := rfl
theorem xf_30_40 : xfld 30 8 40 = some (some (.ref 82)) := rfl
theorem xf_30_41 : xfld 30 8 41 = some (some (.ref 83)) := rfl
theorem xf_30_42 : xfld 30 8 42 = some (some (.ref 84)) := rfl
theorem xf_30_43 : xfld 30 8 43 = some (none) := rfl
theorem xf_30_44 : xfld 30 8 44 = some (some (.ref 85)) := rfl
theorem xf_30_45 : xfld 30 8 45 = some (none) := rfl
theorem xf_30_46 : xfld 30 8 46 = some (some (.ref 86)) := rfl
theorem xf_30_47 : xfld 30 8 47 = some (some (.ref 87)) := rfl
theorem xf_30_48 : xfld 30 8 48 = some (some (.ref 88)) := rfl
theorem xf_30_49 : xfld 30 8 49 = some (none) := rfl
theorem xf_30_50 : xfld 30 8 50 = some (none) := rfl
theorem xa_55 : xarr 55 = some (1, 10) := rfl
theorem xa_56 : xarr 56 = some (0, 24) := rfl
theorem xa_57 : xarr 57 = some (1, 24) := rfl
theorem xa_58 : xarr 58 = some (0, 24) := rfl
theorem xa_59 : xarr 59 = some (0, 24) := rfl
theorem xa_60 : xarr 60 = some (0, 24) := rfl
theorem xa_61 : xarr 61 = some (1, 24) := rfl
theorem xa_62 : xarr 62 = some (0, 40) := rfl
theorem xa_63 : xarr 63 = some (0, 40) := rfl
theorem xa_64 : xarr 64 = some (0, 40) := rfl
theorem xa_65 : xarr 65 = some (2, 40) := rfl
theorem xa_66 : xarr 66 = some (0, 160) := rfl
theorem xa_67 : xarr 67 = some (0, 40) := rfl
theorem xa_68 : xarr 68 = some (0, 40) := rfl
theorem xa_69 : xarr 69 = some (0, 40) := rfl
theorem xa_70 : xarr 70 = some (2, 40) := rfl
theorem xa_71 : xarr 71 = some (1, 10) := rfl
theorem xa_72 : xarr 72 = some (0, 16) := rfl
theorem xa_73 : xarr 73 = some (0, 40) := rfl
theorem xa_74 : xarr 74 = some (1, 24) := rfl
theorem xa_75 : xarr 75 = some (1, 160) := rfl
theorem xa_76 : xarr 76 = some (0, 24) := rfl
theorem xa_77 : xarr 77 = some (0, 24) := rfl
theorem xa_78 : xarr 78 = some (0, 160) := rfl
theorem xa_79 : xarr 79 = some (0, 40) := rfl
theorem xa_80 : xarr 80 = some (0, 24) := rfl
theorem xa_81 : xarr 81 = some (0, 128) := rfl
theorem xa_82 : xarr 82 = some (1, 64) := rfl
theorem xa_83 : xarr 83 = some (0, 8) := rfl
theorem xa_84 : xarr 84 = some (0, 8) := rfl
theorem xa_85 : xarr 85 = some (1, 8) := rfl
theorem xa_86 : xarr 86 = some (0, 1280) := rfl
theorem xa_87 : xarr 87 = some (0, 8) := rfl
theorem xa_88 : xarr 88 = some (1, 8) := rfl
theorem tab6 : IsTab 6 31 10 1 := ⟨rfl, rfl, rfl, rfl, rfl, by decide, by decide, by decide⟩
theorem tab7 : IsTab 7 32 24 6 := ⟨rfl, rfl, rfl, rfl, rfl, by decide, by decide, by decide⟩
theorem tab8 : IsTab 8 33 40 5 := ⟨rfl, rfl, rfl, rfl, rfl, by decide, by decide, by decide⟩
theorem tab9 : IsTab 9 34 160 3 := ⟨rfl, rfl, rfl, rfl, rfl, by decide, by decide, by decide⟩
theorem tab10 : IsTab 10 35 40 4 := ⟨rfl, rfl, rfl, rfl, rfl, by decide, by decide, by decide⟩
theorem tab11 : IsTab 11 36 40 2 := ⟨rfl, rfl, rfl, rfl, rfl, by decide, by decide, by decide⟩
theorem tab12 : IsTab 12 37 100 2 := ⟨rfl, rfl, rfl, rfl, rfl, by decide, by decide, by decide⟩
theorem tab13 : IsTab 13 38 8 16 := ⟨rfl, rfl, rfl, rfl, rfl, by decide, by decide, by decide⟩
theorem tab14 : IsTab 14 39 8 8 := ⟨rfl, rfl, rfl, rfl, rfl, by decide, by decide, by decide⟩
theorem tab15 : IsTab 15 40 8 1 := ⟨rfl, rfl, rfl, rfl, rfl, by decide, by decide, by decide⟩
theorem tab16 : IsTab 16 41 128 10 := ⟨rfl, rfl, rfl, rfl, rfl, by decide, by decide, by decide⟩
theorem row17 : IsRow 17 42 10 := ⟨rfl, rfl, by decide⟩
theorem row18 : IsRow 18 43 16 := ⟨rfl, rfl, by decide⟩
theorem row19 : IsRow 19 44 16 := ⟨rfl, rfl, by decide⟩
theorem row20 : IsRow 20 45 40 := ⟨rfl, rfl, by decide⟩
theorem row21 : IsRow 21 46 24 := ⟨rfl, rfl, by decide⟩
theorem row22 : IsRow 22 47 160 := ⟨rfl, rfl, by decide⟩
theorem row23 : IsRow 23 48 24 := ⟨rfl, rfl, by decide⟩
theorem row24 : IsRow 24 49 24 := ⟨rfl, rfl, by decide⟩
theorem row25 : IsRow 25 50 160 := ⟨rfl, rfl, by decide⟩
theorem row26 : IsRow 26 51 8 := ⟨rfl, rfl, by decide⟩
theorem row27 : IsRow 27 52 8 := ⟨rfl, rfl, by decide⟩
theorem row28 : IsRow 28 53 8 := ⟨rfl, rfl, by decide⟩
theorem row29 : IsRow 29 54 8 := ⟨rfl, rfl, by decide⟩

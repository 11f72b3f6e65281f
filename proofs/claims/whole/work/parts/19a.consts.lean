theorem kb_m100 : (Int8.ofInt (-100)).toInt32 = (-100 : Int32) := by decide +kernel
theorem kb_m99 : (Int8.ofInt (-99)).toInt32 = (-99 : Int32) := by decide +kernel
theorem kb_m14 : (Int8.ofInt (-14)).toInt32 = (-14 : Int32) := by decide +kernel
theorem kb_m13 : (Int8.ofInt (-13)).toInt32 = (-13 : Int32) := by decide +kernel
theorem kb_m12 : (Int8.ofInt (-12)).toInt32 = (-12 : Int32) := by decide +kernel
theorem kb_m11 : (Int8.ofInt (-11)).toInt32 = (-11 : Int32) := by decide +kernel
theorem kb_m10 : (Int8.ofInt (-10)).toInt32 = (-10 : Int32) := by decide +kernel
theorem kb_m8 : (Int8.ofInt (-8)).toInt32 = (-8 : Int32) := by decide +kernel
theorem kb_m7 : (Int8.ofInt (-7)).toInt32 = (-7 : Int32) := by decide +kernel
theorem kb_m6 : (Int8.ofInt (-6)).toInt32 = (-6 : Int32) := by decide +kernel
theorem kb_m5 : (Int8.ofInt (-5)).toInt32 = (-5 : Int32) := by decide +kernel
theorem kb_m4 : (Int8.ofInt (-4)).toInt32 = (-4 : Int32) := by decide +kernel
theorem kb_m3 : (Int8.ofInt (-3)).toInt32 = (-3 : Int32) := by decide +kernel
theorem kb_m2 : (Int8.ofInt (-2)).toInt32 = (-2 : Int32) := by decide +kernel
theorem kb_6 : (Int8.ofInt 6).toInt32 = nI 6 := by decide +kernel
theorem kb_7 : (Int8.ofInt 7).toInt32 = nI 7 := by decide +kernel
theorem kb_8 : (Int8.ofInt 8).toInt32 = nI 8 := by decide +kernel
theorem kb_9 : (Int8.ofInt 9).toInt32 = nI 9 := by decide +kernel
theorem kb_10 : (Int8.ofInt 10).toInt32 = nI 10 := by decide +kernel
theorem kb_11 : (Int8.ofInt 11).toInt32 = nI 11 := by decide +kernel
theorem kb_12 : (Int8.ofInt 12).toInt32 = nI 12 := by decide +kernel
theorem kb_13 : (Int8.ofInt 13).toInt32 = nI 13 := by decide +kernel
theorem kb_14 : (Int8.ofInt 14).toInt32 = nI 14 := by decide +kernel
theorem kb_15 : (Int8.ofInt 15).toInt32 = nI 15 := by decide +kernel
theorem kb_16 : (Int8.ofInt 16).toInt32 = nI 16 := by decide +kernel
theorem kb_17 : (Int8.ofInt 17).toInt32 = nI 17 := by decide +kernel
theorem kb_18 : (Int8.ofInt 18).toInt32 = nI 18 := by decide +kernel
theorem kb_19 : (Int8.ofInt 19).toInt32 = nI 19 := by decide +kernel
theorem kb_20 : (Int8.ofInt 20).toInt32 = nI 20 := by decide +kernel
theorem kb_21 : (Int8.ofInt 21).toInt32 = nI 21 := by decide +kernel
theorem kb_22 : (Int8.ofInt 22).toInt32 = nI 22 := by decide +kernel
theorem kb_23 : (Int8.ofInt 23).toInt32 = nI 23 := by decide +kernel
theorem kb_24 : (Int8.ofInt 24).toInt32 = nI 24 := by decide +kernel
theorem kb_25 : (Int8.ofInt 25).toInt32 = nI 25 := by decide +kernel
theorem kb_26 : (Int8.ofInt 26).toInt32 = nI 26 := by decide +kernel
theorem kb_27 : (Int8.ofInt 27).toInt32 = nI 27 := by decide +kernel
theorem kb_28 : (Int8.ofInt 28).toInt32 = nI 28 := by decide +kernel
theorem kb_29 : (Int8.ofInt 29).toInt32 = nI 29 := by decide +kernel
theorem kb_30 : (Int8.ofInt 30).toInt32 = nI 30 := by decide +kernel
theorem kb_31 : (Int8.ofInt 31).toInt32 = nI 31 := by decide +kernel
theorem kb_32 : (Int8.ofInt 32).toInt32 = nI 32 := by decide +kernel
theorem kb_33 : (Int8.ofInt 33).toInt32 = nI 33 := by decide +kernel
theorem kb_34 : (Int8.ofInt 34).toInt32 = nI 34 := by decide +kernel
theorem kb_35 : (Int8.ofInt 35).toInt32 = nI 35 := by decide +kernel
theorem kb_36 : (Int8.ofInt 36).toInt32 = nI 36 := by decide +kernel
theorem kb_37 : (Int8.ofInt 37).toInt32 = nI 37 := by decide +kernel
theorem kb_38 : (Int8.ofInt 38).toInt32 = nI 38 := by decide +kernel
theorem kb_39 : (Int8.ofInt 39).toInt32 = nI 39 := by decide +kernel
theorem kb_40 : (Int8.ofInt 40).toInt32 = nI 40 := by decide +kernel
theorem kb_41 : (Int8.ofInt 41).toInt32 = nI 41 := by decide +kernel
theorem kb_42 : (Int8.ofInt 42).toInt32 = nI 42 := by decide +kernel
theorem kb_43 : (Int8.ofInt 43).toInt32 = nI 43 := by decide +kernel
theorem kb_44 : (Int8.ofInt 44).toInt32 = nI 44 := by decide +kernel
theorem kb_45 : (Int8.ofInt 45).toInt32 = nI 45 := by decide +kernel
theorem kb_46 : (Int8.ofInt 46).toInt32 = nI 46 := by decide +kernel
theorem kb_47 : (Int8.ofInt 47).toInt32 = nI 47 := by decide +kernel
theorem kb_48 : (Int8.ofInt 48).toInt32 = nI 48 := by decide +kernel
theorem kb_49 : (Int8.ofInt 49).toInt32 = nI 49 := by decide +kernel
theorem kb_50 : (Int8.ofInt 50).toInt32 = nI 50 := by decide +kernel
theorem kb_51 : (Int8.ofInt 51).toInt32 = nI 51 := by decide +kernel
theorem kb_52 : (Int8.ofInt 52).toInt32 = nI 52 := by decide +kernel
theorem kb_53 : (Int8.ofInt 53).toInt32 = nI 53 := by decide +kernel
theorem kb_54 : (Int8.ofInt 54).toInt32 = nI 54 := by decide +kernel
theorem kb_55 : (Int8.ofInt 55).toInt32 = nI 55 := by decide +kernel
theorem kb_56 : (Int8.ofInt 56).toInt32 = nI 56 := by decide +kernel
theorem kb_57 : (Int8.ofInt 57).toInt32 = nI 57 := by decide +kernel
theorem kb_58 : (Int8.ofInt 58).toInt32 = nI 58 := by decide +kernel
theorem kb_59 : (Int8.ofInt 59).toInt32 = nI 59 := by decide +kernel
theorem kb_60 : (Int8.ofInt 60).toInt32 = nI 60 := by decide +kernel
theorem kb_61 : (Int8.ofInt 61).toInt32 = nI 61 := by decide +kernel
theorem kb_62 : (Int8.ofInt 62).toInt32 = nI 62 := by decide +kernel
theorem kb_63 : (Int8.ofInt 63).toInt32 = nI 63 := by decide +kernel
theorem kb_64 : (Int8.ofInt 64).toInt32 = nI 64 := by decide +kernel
theorem kb_65 : (Int8.ofInt 65).toInt32 = nI 65 := by decide +kernel
theorem kb_66 : (Int8.ofInt 66).toInt32 = nI 66 := by decide +kernel
theorem kb_67 : (Int8.ofInt 67).toInt32 = nI 67 := by decide +kernel
theorem kb_68 : (Int8.ofInt 68).toInt32 = nI 68 := by decide +kernel
theorem kb_69 : (Int8.ofInt 69).toInt32 = nI 69 := by decide +kernel
theorem kb_70 : (Int8.ofInt 70).toInt32 = nI 70 := by decide +kernel
theorem kb_71 : (Int8.ofInt 71).toInt32 = nI 71 := by decide +kernel
theorem kb_72 : (Int8.ofInt 72).toInt32 = nI 72 := by decide +kernel
theorem kb_73 : (Int8.ofInt 73).toInt32 = nI 73 := by decide +kernel
theorem kb_74 : (Int8.ofInt 74).toInt32 = nI 74 := by decide +kernel
theorem kb_75 : (Int8.ofInt 75).toInt32 = nI 75 := by decide +kernel
theorem kb_76 : (Int8.ofInt 76).toInt32 = nI 76 := by decide +kernel
theorem kb_77 : (Int8.ofInt 77).toInt32 = nI 77 := by decide +kernel
theorem kb_78 : (Int8.ofInt 78).toInt32 = nI 78 := by decide +kernel
theorem kb_79 : (Int8.ofInt 79).toInt32 = nI 79 := by decide +kernel
theorem kb_80 : (Int8.ofInt 80).toInt32 = nI 80 := by decide +kernel
theorem kb_81 : (Int8.ofInt 81).toInt32 = nI 81 := by decide +kernel
theorem kb_82 : (Int8.ofInt 82).toInt32 = nI 82 := by decide +kernel
theorem kb_83 : (Int8.ofInt 83).toInt32 = nI 83 := by decide +kernel
theorem kb_84 : (Int8.ofInt 84).toInt32 = nI 84 := by decide +kernel
theorem kb_85 : (Int8.ofInt 85).toInt32 = nI 85 := by decide +kernel
theorem kb_86 : (Int8.ofInt 86).toInt32 = nI 86 := by decide +kernel
theorem kb_87 : (Int8.ofInt 87).toInt32 = nI 87 := by decide +kernel
theorem kb_88 : (Int8.ofInt 88).toInt32 = nI 88 := by decide +kernel
theorem kb_89 : (Int8.ofInt 89).toInt32 = nI 89 := by decide +kernel
theorem kb_90 : (Int8.ofInt 90).toInt32 = nI 90 := by decide +kernel
theorem kb_91 : (Int8.ofInt 91).toInt32 = nI 91 := by decide +kernel
theorem kb_92 : (Int8.ofInt 92).toInt32 = nI 92 := by decide +kernel
theorem kb_93 : (Int8.ofInt 93).toInt32 = nI 93 := by decide +kernel
theorem kb_94 : (Int8.ofInt 94).toInt32 = nI 94 := by decide +kernel
theorem kb_95 : (Int8.ofInt 95).toInt32 = nI 95 := by decide +kernel
theorem kb_96 : (Int8.ofInt 96).toInt32 = nI 96 := by decide +kernel
theorem kb_97 : (Int8.ofInt 97).toInt32 = nI 97 := by decide +kernel
theorem kb_99 : (Int8.ofInt 99).toInt32 = nI 99 := by decide +kernel
theorem kb_100 : (Int8.ofInt 100).toInt32 = nI 100 := by decide +kernel
theorem kb_101 : (Int8.ofInt 101).toInt32 = nI 101 := by decide +kernel
theorem kb_104 : (Int8.ofInt 104).toInt32 = nI 104 := by decide +kernel
theorem kb_105 : (Int8.ofInt 105).toInt32 = nI 105 := by decide +kernel
theorem kb_108 : (Int8.ofInt 108).toInt32 = nI 108 := by decide +kernel
theorem kb_109 : (Int8.ofInt 109).toInt32 = nI 109 := by decide +kernel
theorem kb_110 : (Int8.ofInt 110).toInt32 = nI 110 := by decide +kernel
theorem kb_111 : (Int8.ofInt 111).toInt32 = nI 111 := by decide +kernel
theorem kb_114 : (Int8.ofInt 114).toInt32 = nI 114 := by decide +kernel
theorem kb_115 : (Int8.ofInt 115).toInt32 = nI 115 := by decide +kernel
theorem kb_116 : (Int8.ofInt 116).toInt32 = nI 116 := by decide +kernel
theorem kb_117 : (Int8.ofInt 117).toInt32 = nI 117 := by decide +kernel
theorem kb_119 : (Int8.ofInt 119).toInt32 = nI 119 := by decide +kernel
theorem kb_121 : (Int8.ofInt 121).toInt32 = nI 121 := by decide +kernel
theorem kb_122 : (Int8.ofInt 122).toInt32 = nI 122 := by decide +kernel
theorem ki_m1 : Int32.ofInt (-1) = (-1 : Int32) := by decide +kernel
theorem ki_0 : Int32.ofInt 0 = nI 0 := by decide +kernel
theorem ki_1 : Int32.ofInt 1 = nI 1 := by decide +kernel
theorem ki_2 : Int32.ofInt 2 = nI 2 := by decide +kernel
theorem ki_3 : Int32.ofInt 3 = nI 3 := by decide +kernel
theorem ki_4 : Int32.ofInt 4 = nI 4 := by decide +kernel
theorem ki_5 : Int32.ofInt 5 = nI 5 := by decide +kernel
theorem ks_m7000 : (Int16.ofInt (-7000)).toInt32 = (-7000 : Int32) := by decide +kernel
theorem ks_m5000 : (Int16.ofInt (-5000)).toInt32 = (-5000 : Int32) := by decide +kernel
theorem ks_m1000 : (Int16.ofInt (-1000)).toInt32 = (-1000 : Int32) := by decide +kernel
theorem ks_160 : (Int16.ofInt 160).toInt32 = nI 160 := by decide +kernel
theorem ks_161 : (Int16.ofInt 161).toInt32 = nI 161 := by decide +kernel
theorem ks_200 : (Int16.ofInt 200).toInt32 = nI 200 := by decide +kernel
theorem ks_255 : (Int16.ofInt 255).toInt32 = nI 255 := by decide +kernel
theorem ks_999 : (Int16.ofInt 999).toInt32 = nI 999 := by decide +kernel
theorem ks_1023 : (Int16.ofInt 1023).toInt32 = nI 1023 := by decide +kernel
theorem ks_1200 : (Int16.ofInt 1200).toInt32 = nI 1200 := by decide +kernel
theorem ks_10000 : (Int16.ofInt 10000).toInt32 = nI 10000 := by decide +kernel
theorem ks_10100 : (Int16.ofInt 10100).toInt32 = nI 10100 := by decide +kernel
theorem ks_10101 : (Int16.ofInt 10101).toInt32 = nI 10101 := by decide +kernel
theorem ks_10102 : (Int16.ofInt 10102).toInt32 = nI 10102 := by decide +kernel
theorem ks_10103 : (Int16.ofInt 10103).toInt32 = nI 10103 := by decide +kernel
theorem ks_10104 : (Int16.ofInt 10104).toInt32 = nI 10104 := by decide +kernel
theorem ks_10105 : (Int16.ofInt 10105).toInt32 = nI 10105 := by decide +kernel

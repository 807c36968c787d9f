/-! numbers -/
theorem ni_m1 : ((-1 : Int32)).toInt = -1 := by decide
theorem ni_0 : ((0 : Int32)).toInt = 0 := by decide
theorem ni_1 : ((1 : Int32)).toInt = 1 := by decide
theorem ni_2 : ((2 : Int32)).toInt = 2 := by decide
theorem ni_3 : ((3 : Int32)).toInt = 3 := by decide
theorem ni_4 : ((4 : Int32)).toInt = 4 := by decide
theorem ni_5 : ((5 : Int32)).toInt = 5 := by decide
theorem ni_6 : ((6 : Int32)).toInt = 6 := by decide
theorem ni_7 : ((7 : Int32)).toInt = 7 := by decide
theorem ni_8 : ((8 : Int32)).toInt = 8 := by decide
theorem ni_9 : ((9 : Int32)).toInt = 9 := by decide
theorem ni_10 : ((10 : Int32)).toInt = 10 := by decide
theorem ni_12 : ((12 : Int32)).toInt = 12 := by decide
theorem ni_13 : ((13 : Int32)).toInt = 13 := by decide
theorem ni_14 : ((14 : Int32)).toInt = 14 := by decide
theorem ni_15 : ((15 : Int32)).toInt = 15 := by decide
theorem ni_16 : ((16 : Int32)).toInt = 16 := by decide
theorem ni_17 : ((17 : Int32)).toInt = 17 := by decide
theorem ni_18 : ((18 : Int32)).toInt = 18 := by decide
theorem ni_20 : ((20 : Int32)).toInt = 20 := by decide
theorem ni_22 : ((22 : Int32)).toInt = 22 := by decide
theorem ni_24 : ((24 : Int32)).toInt = 24 := by decide
theorem ni_26 : ((26 : Int32)).toInt = 26 := by decide
theorem ni_28 : ((28 : Int32)).toInt = 28 := by decide
theorem ni_30 : ((30 : Int32)).toInt = 30 := by decide
theorem ni_31 : ((31 : Int32)).toInt = 31 := by decide
theorem ni_32 : ((32 : Int32)).toInt = 32 := by decide
theorem ni_33 : ((33 : Int32)).toInt = 33 := by decide
theorem ni_34 : ((34 : Int32)).toInt = 34 := by decide
theorem ni_36 : ((36 : Int32)).toInt = 36 := by decide
theorem ni_37 : ((37 : Int32)).toInt = 37 := by decide
theorem ni_38 : ((38 : Int32)).toInt = 38 := by decide
theorem ni_40 : ((40 : Int32)).toInt = 40 := by decide
theorem ni_45 : ((45 : Int32)).toInt = 45 := by decide
theorem ni_46 : ((46 : Int32)).toInt = 46 := by decide
theorem ni_47 : ((47 : Int32)).toInt = 47 := by decide
theorem ni_48 : ((48 : Int32)).toInt = 48 := by decide
theorem ni_58 : ((58 : Int32)).toInt = 58 := by decide
theorem ni_63 : ((63 : Int32)).toInt = 63 := by decide
theorem ni_64 : ((64 : Int32)).toInt = 64 := by decide
theorem ni_79 : ((79 : Int32)).toInt = 79 := by decide
theorem ni_80 : ((80 : Int32)).toInt = 80 := by decide
theorem ni_81 : ((81 : Int32)).toInt = 81 := by decide
theorem ni_82 : ((82 : Int32)).toInt = 82 := by decide
theorem ni_83 : ((83 : Int32)).toInt = 83 := by decide
theorem ni_85 : ((85 : Int32)).toInt = 85 := by decide
theorem ni_87 : ((87 : Int32)).toInt = 87 := by decide
theorem ni_88 : ((88 : Int32)).toInt = 88 := by decide
theorem ni_92 : ((92 : Int32)).toInt = 92 := by decide
theorem ni_93 : ((93 : Int32)).toInt = 93 := by decide
theorem ni_94 : ((94 : Int32)).toInt = 94 := by decide
theorem ni_95 : ((95 : Int32)).toInt = 95 := by decide
theorem ni_96 : ((96 : Int32)).toInt = 96 := by decide
theorem ni_97 : ((97 : Int32)).toInt = 97 := by decide
theorem ni_99 : ((99 : Int32)).toInt = 99 := by decide
theorem ni_100 : ((100 : Int32)).toInt = 100 := by decide
theorem ni_127 : ((127 : Int32)).toInt = 127 := by decide
theorem ni_128 : ((128 : Int32)).toInt = 128 := by decide
theorem ni_144 : ((144 : Int32)).toInt = 144 := by decide
theorem ni_146 : ((146 : Int32)).toInt = 146 := by decide
theorem ni_147 : ((147 : Int32)).toInt = 147 := by decide
theorem ni_192 : ((192 : Int32)).toInt = 192 := by decide
theorem ni_217 : ((217 : Int32)).toInt = 217 := by decide
theorem ni_224 : ((224 : Int32)).toInt = 224 := by decide
theorem ni_255 : ((255 : Int32)).toInt = 255 := by decide
theorem ni_256 : ((256 : Int32)).toInt = 256 := by decide
theorem ni_512 : ((512 : Int32)).toInt = 512 := by decide
theorem ni_1024 : ((1024 : Int32)).toInt = 1024 := by decide
theorem ni_7168 : ((7168 : Int32)).toInt = 7168 := by decide
theorem ni_65535 : ((65535 : Int32)).toInt = 65535 := by decide
theorem ni_65536 : ((65536 : Int32)).toInt = 65536 := by decide
theorem ni_16500 : ((16500 : Int32)).toInt = 16500 := by decide
theorem ni_2147483647 : ((2147483647 : Int32)).toInt = 2147483647 := by decide
theorem nl_0 : ((0 : Int64)).toInt = 0 := by decide
theorem nl_1 : ((1 : Int64)).toInt = 1 := by decide
theorem nl_2 : ((2 : Int64)).toInt = 2 := by decide
theorem nl_14 : ((14 : Int64)).toInt = 14 := by decide
theorem nl_64 : ((64 : Int64)).toInt = 64 := by decide
theorem nl_16 : ((16 : Int64)).toInt = 16 := by decide
theorem nl_2147483647 : ((2147483647 : Int64)).toInt = 2147483647 := by decide
theorem nl_2147483648 : ((2147483648 : Int64)).toInt = 2147483648 := by decide
theorem nl_255 : ((255 : Int64)).toInt = 255 := by decide
theorem nl_38 : ((38 : Int64)).toInt = 38 := by decide
theorem nl_32 : ((32 : Int64)).toInt = 32 := by decide
theorem nl_97 : ((97 : Int64)).toInt = 97 := by decide
theorem nl_33 : ((33 : Int64)).toInt = 33 := by decide
theorem sm_ltL {x y : Int64} : x < y ↔ x.toInt < y.toInt := Int64.lt_iff_toInt_lt
theorem sm_leL {x y : Int64} : x ≤ y ↔ x.toInt ≤ y.toInt := Int64.le_iff_toInt_le
theorem sm_eqI {x y : Int32} : x = y ↔ x.toInt = y.toInt := Int32.toInt_inj.symm
theorem sm_eqL {x y : Int64} : x = y ↔ x.toInt = y.toInt := Int64.toInt_inj.symm
theorem sm_b0 {P : Prop} [Decidable P] : ((if P then (1 : Int32) else 0) = 0) ↔ ¬ P := by
  by_cases h : P
  · simp [h]
  · simp [h]


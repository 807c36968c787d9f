/-! StreamMarks$Rules: what is a value -/
section RUL
variable {G : sm_G} {M : sm_M}

set_option maxHeartbeats 4000000 in
set_option maxRecDepth 100000 in
theorem c_Ru_isPicture (x0 : Int64) (y0 : Int64) (x1 : Int64) (y1 : Int64) : sm_C G mf_Ru_isPicture [.long x0, .long y0, .long x1, .long y1] M 0 0 (sm_pu M (.int (if 0 ≤ x0.toInt ∧ x0.toInt < x1.toInt ∧ x1.toInt ≤ 2147483647 ∧ 0 ≤ y0.toInt ∧ y0.toInt < y1.toInt ∧ y1.toInt ≤ 2147483647 then 1 else 0))) := by
  refine sm_ofW rfl (Nat.le_of_ble_eq_true rfl) ?_
  refine sm_lload_n d_Ru_isPicture_0 rfl (j := 0) rfl ?_
  refine sm_lconst (v := 0) d_Ru_isPicture_1 (by decide) ?_
  refine sm_lcmp d_Ru_isPicture_2 ?_
  refine sm_if_lt (tgt := 48) d_Ru_isPicture_3 (by decide) (fun h1 => ?_) (fun h1 => ?_)
  · refine sm_iconst (v := 0) d_Ru_isPicture_48 (by decide) ?_
    refine sm_ireturn d_Ru_isPicture_49 rfl (by decide) ?_
    refine ⟨rfl, ?_⟩
    (try simp only [lg_cmp_ge, lg_cmp_le, lg_cmp_gt, lg_cmp_lt, lg_cmp_eq, sm_b0, Classical.not_not] at h1)
    (try simp only [sm_lt, sm_le, sm_ltL, sm_leL, sm_eqI, sm_eqL, ni_m1, ni_0, ni_1, ni_2, ni_3, ni_4, ni_5, ni_6, ni_7, ni_8, ni_9, ni_10, ni_12, ni_13, ni_14, ni_15, ni_16, ni_17, ni_18, ni_20, ni_22, ni_24, ni_26, ni_28, ni_30, ni_31, ni_32, ni_33, ni_34, ni_36, ni_37, ni_38, ni_40, ni_45, ni_46, ni_47, ni_48, ni_58, ni_63, ni_64, ni_79, ni_80, ni_81, ni_82, ni_83, ni_85, ni_87, ni_88, ni_92, ni_93, ni_94, ni_95, ni_96, ni_97, ni_99, ni_100, ni_127, ni_128, ni_144, ni_146, ni_147, ni_192, ni_217, ni_224, ni_255, ni_256, ni_512, ni_1024, ni_7168, ni_65535, ni_65536, ni_16500, ni_2147483647, nl_0, nl_1, nl_2, nl_14, nl_64, nl_16, nl_2147483647, nl_2147483648, nl_255, nl_38, nl_32, nl_97, nl_33] at h1)
    first | (exfalso; omega) | rw [if_pos (by omega)] | rw [if_neg (by omega)]
  · refine sm_lload_n d_Ru_isPicture_6 rfl (j := 0) rfl ?_
    refine sm_lload d_Ru_isPicture_7 (j := 2) rfl ?_
    refine sm_lcmp d_Ru_isPicture_9 ?_
    refine sm_if_ge (tgt := 48) d_Ru_isPicture_10 (by decide) (fun h2 => ?_) (fun h2 => ?_)
    · refine sm_iconst (v := 0) d_Ru_isPicture_48 (by decide) ?_
      refine sm_ireturn d_Ru_isPicture_49 rfl (by decide) ?_
      refine ⟨rfl, ?_⟩
      (try simp only [lg_cmp_ge, lg_cmp_le, lg_cmp_gt, lg_cmp_lt, lg_cmp_eq, sm_b0, Classical.not_not] at h1 h2)
      (try simp only [sm_lt, sm_le, sm_ltL, sm_leL, sm_eqI, sm_eqL, ni_m1, ni_0, ni_1, ni_2, ni_3, ni_4, ni_5, ni_6, ni_7, ni_8, ni_9, ni_10, ni_12, ni_13, ni_14, ni_15, ni_16, ni_17, ni_18, ni_20, ni_22, ni_24, ni_26, ni_28, ni_30, ni_31, ni_32, ni_33, ni_34, ni_36, ni_37, ni_38, ni_40, ni_45, ni_46, ni_47, ni_48, ni_58, ni_63, ni_64, ni_79, ni_80, ni_81, ni_82, ni_83, ni_85, ni_87, ni_88, ni_92, ni_93, ni_94, ni_95, ni_96, ni_97, ni_99, ni_100, ni_127, ni_128, ni_144, ni_146, ni_147, ni_192, ni_217, ni_224, ni_255, ni_256, ni_512, ni_1024, ni_7168, ni_65535, ni_65536, ni_16500, ni_2147483647, nl_0, nl_1, nl_2, nl_14, nl_64, nl_16, nl_2147483647, nl_2147483648, nl_255, nl_38, nl_32, nl_97, nl_33] at h1 h2)
      first | (exfalso; omega) | rw [if_pos (by omega)] | rw [if_neg (by omega)]
    · refine sm_lload d_Ru_isPicture_13 (j := 2) rfl ?_
      refine sm_ldc2 (v := 2147483647) d_Ru_isPicture_15 mw_448 ?_
      refine sm_lcmp d_Ru_isPicture_18 ?_
      refine sm_if_gt (tgt := 48) d_Ru_isPicture_19 (by decide) (fun h3 => ?_) (fun h3 => ?_)
      · refine sm_iconst (v := 0) d_Ru_isPicture_48 (by decide) ?_
        refine sm_ireturn d_Ru_isPicture_49 rfl (by decide) ?_
        refine ⟨rfl, ?_⟩
        (try simp only [lg_cmp_ge, lg_cmp_le, lg_cmp_gt, lg_cmp_lt, lg_cmp_eq, sm_b0, Classical.not_not] at h1 h2 h3)
        (try simp only [sm_lt, sm_le, sm_ltL, sm_leL, sm_eqI, sm_eqL, ni_m1, ni_0, ni_1, ni_2, ni_3, ni_4, ni_5, ni_6, ni_7, ni_8, ni_9, ni_10, ni_12, ni_13, ni_14, ni_15, ni_16, ni_17, ni_18, ni_20, ni_22, ni_24, ni_26, ni_28, ni_30, ni_31, ni_32, ni_33, ni_34, ni_36, ni_37, ni_38, ni_40, ni_45, ni_46, ni_47, ni_48, ni_58, ni_63, ni_64, ni_79, ni_80, ni_81, ni_82, ni_83, ni_85, ni_87, ni_88, ni_92, ni_93, ni_94, ni_95, ni_96, ni_97, ni_99, ni_100, ni_127, ni_128, ni_144, ni_146, ni_147, ni_192, ni_217, ni_224, ni_255, ni_256, ni_512, ni_1024, ni_7168, ni_65535, ni_65536, ni_16500, ni_2147483647, nl_0, nl_1, nl_2, nl_14, nl_64, nl_16, nl_2147483647, nl_2147483648, nl_255, nl_38, nl_32, nl_97, nl_33] at h1 h2 h3)
        first | (exfalso; omega) | rw [if_pos (by omega)] | rw [if_neg (by omega)]
      · refine sm_lload_n d_Ru_isPicture_22 rfl (j := 1) rfl ?_
        refine sm_lconst (v := 0) d_Ru_isPicture_23 (by decide) ?_
        refine sm_lcmp d_Ru_isPicture_24 ?_
        refine sm_if_lt (tgt := 48) d_Ru_isPicture_25 (by decide) (fun h4 => ?_) (fun h4 => ?_)
        · refine sm_iconst (v := 0) d_Ru_isPicture_48 (by decide) ?_
          refine sm_ireturn d_Ru_isPicture_49 rfl (by decide) ?_
          refine ⟨rfl, ?_⟩
          (try simp only [lg_cmp_ge, lg_cmp_le, lg_cmp_gt, lg_cmp_lt, lg_cmp_eq, sm_b0, Classical.not_not] at h1 h2 h3 h4)
          (try simp only [sm_lt, sm_le, sm_ltL, sm_leL, sm_eqI, sm_eqL, ni_m1, ni_0, ni_1, ni_2, ni_3, ni_4, ni_5, ni_6, ni_7, ni_8, ni_9, ni_10, ni_12, ni_13, ni_14, ni_15, ni_16, ni_17, ni_18, ni_20, ni_22, ni_24, ni_26, ni_28, ni_30, ni_31, ni_32, ni_33, ni_34, ni_36, ni_37, ni_38, ni_40, ni_45, ni_46, ni_47, ni_48, ni_58, ni_63, ni_64, ni_79, ni_80, ni_81, ni_82, ni_83, ni_85, ni_87, ni_88, ni_92, ni_93, ni_94, ni_95, ni_96, ni_97, ni_99, ni_100, ni_127, ni_128, ni_144, ni_146, ni_147, ni_192, ni_217, ni_224, ni_255, ni_256, ni_512, ni_1024, ni_7168, ni_65535, ni_65536, ni_16500, ni_2147483647, nl_0, nl_1, nl_2, nl_14, nl_64, nl_16, nl_2147483647, nl_2147483648, nl_255, nl_38, nl_32, nl_97, nl_33] at h1 h2 h3 h4)
          first | (exfalso; omega) | rw [if_pos (by omega)] | rw [if_neg (by omega)]
        · refine sm_lload_n d_Ru_isPicture_28 rfl (j := 1) rfl ?_
          refine sm_lload d_Ru_isPicture_29 (j := 3) rfl ?_
          refine sm_lcmp d_Ru_isPicture_31 ?_
          refine sm_if_ge (tgt := 48) d_Ru_isPicture_32 (by decide) (fun h5 => ?_) (fun h5 => ?_)
          · refine sm_iconst (v := 0) d_Ru_isPicture_48 (by decide) ?_
            refine sm_ireturn d_Ru_isPicture_49 rfl (by decide) ?_
            refine ⟨rfl, ?_⟩
            (try simp only [lg_cmp_ge, lg_cmp_le, lg_cmp_gt, lg_cmp_lt, lg_cmp_eq, sm_b0, Classical.not_not] at h1 h2 h3 h4 h5)
            (try simp only [sm_lt, sm_le, sm_ltL, sm_leL, sm_eqI, sm_eqL, ni_m1, ni_0, ni_1, ni_2, ni_3, ni_4, ni_5, ni_6, ni_7, ni_8, ni_9, ni_10, ni_12, ni_13, ni_14, ni_15, ni_16, ni_17, ni_18, ni_20, ni_22, ni_24, ni_26, ni_28, ni_30, ni_31, ni_32, ni_33, ni_34, ni_36, ni_37, ni_38, ni_40, ni_45, ni_46, ni_47, ni_48, ni_58, ni_63, ni_64, ni_79, ni_80, ni_81, ni_82, ni_83, ni_85, ni_87, ni_88, ni_92, ni_93, ni_94, ni_95, ni_96, ni_97, ni_99, ni_100, ni_127, ni_128, ni_144, ni_146, ni_147, ni_192, ni_217, ni_224, ni_255, ni_256, ni_512, ni_1024, ni_7168, ni_65535, ni_65536, ni_16500, ni_2147483647, nl_0, nl_1, nl_2, nl_14, nl_64, nl_16, nl_2147483647, nl_2147483648, nl_255, nl_38, nl_32, nl_97, nl_33] at h1 h2 h3 h4 h5)
            first | (exfalso; omega) | rw [if_pos (by omega)] | rw [if_neg (by omega)]
          · refine sm_lload d_Ru_isPicture_35 (j := 3) rfl ?_
            refine sm_ldc2 (v := 2147483647) d_Ru_isPicture_37 mw_448 ?_
            refine sm_lcmp d_Ru_isPicture_40 ?_
            refine sm_if_gt (tgt := 48) d_Ru_isPicture_41 (by decide) (fun h6 => ?_) (fun h6 => ?_)
            · refine sm_iconst (v := 0) d_Ru_isPicture_48 (by decide) ?_
              refine sm_ireturn d_Ru_isPicture_49 rfl (by decide) ?_
              refine ⟨rfl, ?_⟩
              (try simp only [lg_cmp_ge, lg_cmp_le, lg_cmp_gt, lg_cmp_lt, lg_cmp_eq, sm_b0, Classical.not_not] at h1 h2 h3 h4 h5 h6)
              (try simp only [sm_lt, sm_le, sm_ltL, sm_leL, sm_eqI, sm_eqL, ni_m1, ni_0, ni_1, ni_2, ni_3, ni_4, ni_5, ni_6, ni_7, ni_8, ni_9, ni_10, ni_12, ni_13, ni_14, ni_15, ni_16, ni_17, ni_18, ni_20, ni_22, ni_24, ni_26, ni_28, ni_30, ni_31, ni_32, ni_33, ni_34, ni_36, ni_37, ni_38, ni_40, ni_45, ni_46, ni_47, ni_48, ni_58, ni_63, ni_64, ni_79, ni_80, ni_81, ni_82, ni_83, ni_85, ni_87, ni_88, ni_92, ni_93, ni_94, ni_95, ni_96, ni_97, ni_99, ni_100, ni_127, ni_128, ni_144, ni_146, ni_147, ni_192, ni_217, ni_224, ni_255, ni_256, ni_512, ni_1024, ni_7168, ni_65535, ni_65536, ni_16500, ni_2147483647, nl_0, nl_1, nl_2, nl_14, nl_64, nl_16, nl_2147483647, nl_2147483648, nl_255, nl_38, nl_32, nl_97, nl_33] at h1 h2 h3 h4 h5 h6)
              first | (exfalso; omega) | rw [if_pos (by omega)] | rw [if_neg (by omega)]
            · refine sm_iconst (v := 1) d_Ru_isPicture_44 (by decide) ?_
              refine sm_goto (tgt := 49) d_Ru_isPicture_45 (by decide) ?_
              refine sm_ireturn d_Ru_isPicture_49 rfl (by decide) ?_
              refine ⟨rfl, ?_⟩
              (try simp only [lg_cmp_ge, lg_cmp_le, lg_cmp_gt, lg_cmp_lt, lg_cmp_eq, sm_b0, Classical.not_not] at h1 h2 h3 h4 h5 h6)
              (try simp only [sm_lt, sm_le, sm_ltL, sm_leL, sm_eqI, sm_eqL, ni_m1, ni_0, ni_1, ni_2, ni_3, ni_4, ni_5, ni_6, ni_7, ni_8, ni_9, ni_10, ni_12, ni_13, ni_14, ni_15, ni_16, ni_17, ni_18, ni_20, ni_22, ni_24, ni_26, ni_28, ni_30, ni_31, ni_32, ni_33, ni_34, ni_36, ni_37, ni_38, ni_40, ni_45, ni_46, ni_47, ni_48, ni_58, ni_63, ni_64, ni_79, ni_80, ni_81, ni_82, ni_83, ni_85, ni_87, ni_88, ni_92, ni_93, ni_94, ni_95, ni_96, ni_97, ni_99, ni_100, ni_127, ni_128, ni_144, ni_146, ni_147, ni_192, ni_217, ni_224, ni_255, ni_256, ni_512, ni_1024, ni_7168, ni_65535, ni_65536, ni_16500, ni_2147483647, nl_0, nl_1, nl_2, nl_14, nl_64, nl_16, nl_2147483647, nl_2147483648, nl_255, nl_38, nl_32, nl_97, nl_33] at h1 h2 h3 h4 h5 h6)
              first | (exfalso; omega) | rw [if_pos (by omega)] | rw [if_neg (by omega)]

set_option maxHeartbeats 4000000 in
set_option maxRecDepth 100000 in
theorem c_Ru_isTilingAlong (a : Int64) (w : Int64) (x : Int64) : sm_C G mf_Ru_isTilingAlong [.long a, .long w, .long x] M 0 0 (sm_pu M (.int (if 0 ≤ a.toInt ∧ a.toInt ≤ x.toInt ∧ 1 ≤ w.toInt ∧ w.toInt ≤ 2147483647 ∧ x.toInt < (a + w).toInt then 1 else 0))) := by
  refine sm_ofW rfl (Nat.le_of_ble_eq_true rfl) ?_
  refine sm_lload_n d_Ru_isTilingAlong_0 rfl (j := 0) rfl ?_
  refine sm_lconst (v := 0) d_Ru_isTilingAlong_1 (by decide) ?_
  refine sm_lcmp d_Ru_isTilingAlong_2 ?_
  refine sm_if_lt (tgt := 40) d_Ru_isTilingAlong_3 (by decide) (fun h1 => ?_) (fun h1 => ?_)
  · refine sm_iconst (v := 0) d_Ru_isTilingAlong_40 (by decide) ?_
    refine sm_ireturn d_Ru_isTilingAlong_41 rfl (by decide) ?_
    refine ⟨rfl, ?_⟩
    (try simp only [lg_cmp_ge, lg_cmp_le, lg_cmp_gt, lg_cmp_lt, lg_cmp_eq, sm_b0, Classical.not_not] at h1)
    (try simp only [sm_lt, sm_le, sm_ltL, sm_leL, sm_eqI, sm_eqL, ni_m1, ni_0, ni_1, ni_2, ni_3, ni_4, ni_5, ni_6, ni_7, ni_8, ni_9, ni_10, ni_12, ni_13, ni_14, ni_15, ni_16, ni_17, ni_18, ni_20, ni_22, ni_24, ni_26, ni_28, ni_30, ni_31, ni_32, ni_33, ni_34, ni_36, ni_37, ni_38, ni_40, ni_45, ni_46, ni_47, ni_48, ni_58, ni_63, ni_64, ni_79, ni_80, ni_81, ni_82, ni_83, ni_85, ni_87, ni_88, ni_92, ni_93, ni_94, ni_95, ni_96, ni_97, ni_99, ni_100, ni_127, ni_128, ni_144, ni_146, ni_147, ni_192, ni_217, ni_224, ni_255, ni_256, ni_512, ni_1024, ni_7168, ni_65535, ni_65536, ni_16500, ni_2147483647, nl_0, nl_1, nl_2, nl_14, nl_64, nl_16, nl_2147483647, nl_2147483648, nl_255, nl_38, nl_32, nl_97, nl_33] at h1)
    first | (exfalso; omega) | rw [if_pos (by omega)] | rw [if_neg (by omega)]
  · refine sm_lload_n d_Ru_isTilingAlong_6 rfl (j := 0) rfl ?_
    refine sm_lload d_Ru_isTilingAlong_7 (j := 2) rfl ?_
    refine sm_lcmp d_Ru_isTilingAlong_9 ?_
    refine sm_if_gt (tgt := 40) d_Ru_isTilingAlong_10 (by decide) (fun h2 => ?_) (fun h2 => ?_)
    · refine sm_iconst (v := 0) d_Ru_isTilingAlong_40 (by decide) ?_
      refine sm_ireturn d_Ru_isTilingAlong_41 rfl (by decide) ?_
      refine ⟨rfl, ?_⟩
      (try simp only [lg_cmp_ge, lg_cmp_le, lg_cmp_gt, lg_cmp_lt, lg_cmp_eq, sm_b0, Classical.not_not] at h1 h2)
      (try simp only [sm_lt, sm_le, sm_ltL, sm_leL, sm_eqI, sm_eqL, ni_m1, ni_0, ni_1, ni_2, ni_3, ni_4, ni_5, ni_6, ni_7, ni_8, ni_9, ni_10, ni_12, ni_13, ni_14, ni_15, ni_16, ni_17, ni_18, ni_20, ni_22, ni_24, ni_26, ni_28, ni_30, ni_31, ni_32, ni_33, ni_34, ni_36, ni_37, ni_38, ni_40, ni_45, ni_46, ni_47, ni_48, ni_58, ni_63, ni_64, ni_79, ni_80, ni_81, ni_82, ni_83, ni_85, ni_87, ni_88, ni_92, ni_93, ni_94, ni_95, ni_96, ni_97, ni_99, ni_100, ni_127, ni_128, ni_144, ni_146, ni_147, ni_192, ni_217, ni_224, ni_255, ni_256, ni_512, ni_1024, ni_7168, ni_65535, ni_65536, ni_16500, ni_2147483647, nl_0, nl_1, nl_2, nl_14, nl_64, nl_16, nl_2147483647, nl_2147483648, nl_255, nl_38, nl_32, nl_97, nl_33] at h1 h2)
      first | (exfalso; omega) | rw [if_pos (by omega)] | rw [if_neg (by omega)]
    · refine sm_lload_n d_Ru_isTilingAlong_13 rfl (j := 1) rfl ?_
      refine sm_lconst (v := 1) d_Ru_isTilingAlong_14 (by decide) ?_
      refine sm_lcmp d_Ru_isTilingAlong_15 ?_
      refine sm_if_lt (tgt := 40) d_Ru_isTilingAlong_16 (by decide) (fun h3 => ?_) (fun h3 => ?_)
      · refine sm_iconst (v := 0) d_Ru_isTilingAlong_40 (by decide) ?_
        refine sm_ireturn d_Ru_isTilingAlong_41 rfl (by decide) ?_
        refine ⟨rfl, ?_⟩
        (try simp only [lg_cmp_ge, lg_cmp_le, lg_cmp_gt, lg_cmp_lt, lg_cmp_eq, sm_b0, Classical.not_not] at h1 h2 h3)
        (try simp only [sm_lt, sm_le, sm_ltL, sm_leL, sm_eqI, sm_eqL, ni_m1, ni_0, ni_1, ni_2, ni_3, ni_4, ni_5, ni_6, ni_7, ni_8, ni_9, ni_10, ni_12, ni_13, ni_14, ni_15, ni_16, ni_17, ni_18, ni_20, ni_22, ni_24, ni_26, ni_28, ni_30, ni_31, ni_32, ni_33, ni_34, ni_36, ni_37, ni_38, ni_40, ni_45, ni_46, ni_47, ni_48, ni_58, ni_63, ni_64, ni_79, ni_80, ni_81, ni_82, ni_83, ni_85, ni_87, ni_88, ni_92, ni_93, ni_94, ni_95, ni_96, ni_97, ni_99, ni_100, ni_127, ni_128, ni_144, ni_146, ni_147, ni_192, ni_217, ni_224, ni_255, ni_256, ni_512, ni_1024, ni_7168, ni_65535, ni_65536, ni_16500, ni_2147483647, nl_0, nl_1, nl_2, nl_14, nl_64, nl_16, nl_2147483647, nl_2147483648, nl_255, nl_38, nl_32, nl_97, nl_33] at h1 h2 h3)
        first | (exfalso; omega) | rw [if_pos (by omega)] | rw [if_neg (by omega)]
      · refine sm_lload_n d_Ru_isTilingAlong_19 rfl (j := 1) rfl ?_
        refine sm_ldc2 (v := 2147483647) d_Ru_isTilingAlong_20 mw_448 ?_
        refine sm_lcmp d_Ru_isTilingAlong_23 ?_
        refine sm_if_gt (tgt := 40) d_Ru_isTilingAlong_24 (by decide) (fun h4 => ?_) (fun h4 => ?_)
        · refine sm_iconst (v := 0) d_Ru_isTilingAlong_40 (by decide) ?_
          refine sm_ireturn d_Ru_isTilingAlong_41 rfl (by decide) ?_
          refine ⟨rfl, ?_⟩
          (try simp only [lg_cmp_ge, lg_cmp_le, lg_cmp_gt, lg_cmp_lt, lg_cmp_eq, sm_b0, Classical.not_not] at h1 h2 h3 h4)
          (try simp only [sm_lt, sm_le, sm_ltL, sm_leL, sm_eqI, sm_eqL, ni_m1, ni_0, ni_1, ni_2, ni_3, ni_4, ni_5, ni_6, ni_7, ni_8, ni_9, ni_10, ni_12, ni_13, ni_14, ni_15, ni_16, ni_17, ni_18, ni_20, ni_22, ni_24, ni_26, ni_28, ni_30, ni_31, ni_32, ni_33, ni_34, ni_36, ni_37, ni_38, ni_40, ni_45, ni_46, ni_47, ni_48, ni_58, ni_63, ni_64, ni_79, ni_80, ni_81, ni_82, ni_83, ni_85, ni_87, ni_88, ni_92, ni_93, ni_94, ni_95, ni_96, ni_97, ni_99, ni_100, ni_127, ni_128, ni_144, ni_146, ni_147, ni_192, ni_217, ni_224, ni_255, ni_256, ni_512, ni_1024, ni_7168, ni_65535, ni_65536, ni_16500, ni_2147483647, nl_0, nl_1, nl_2, nl_14, nl_64, nl_16, nl_2147483647, nl_2147483648, nl_255, nl_38, nl_32, nl_97, nl_33] at h1 h2 h3 h4)
          first | (exfalso; omega) | rw [if_pos (by omega)] | rw [if_neg (by omega)]
        · refine sm_lload_n d_Ru_isTilingAlong_27 rfl (j := 0) rfl ?_
          refine sm_lload_n d_Ru_isTilingAlong_28 rfl (j := 1) rfl ?_
          refine sm_ladd d_Ru_isTilingAlong_29 ?_
          refine sm_lload d_Ru_isTilingAlong_30 (j := 2) rfl ?_
          refine sm_lcmp d_Ru_isTilingAlong_32 ?_
          refine sm_if_le (tgt := 40) d_Ru_isTilingAlong_33 (by decide) (fun h5 => ?_) (fun h5 => ?_)
          · refine sm_iconst (v := 0) d_Ru_isTilingAlong_40 (by decide) ?_
            refine sm_ireturn d_Ru_isTilingAlong_41 rfl (by decide) ?_
            refine ⟨rfl, ?_⟩
            (try simp only [lg_cmp_ge, lg_cmp_le, lg_cmp_gt, lg_cmp_lt, lg_cmp_eq, sm_b0, Classical.not_not] at h1 h2 h3 h4 h5)
            (try simp only [sm_lt, sm_le, sm_ltL, sm_leL, sm_eqI, sm_eqL, ni_m1, ni_0, ni_1, ni_2, ni_3, ni_4, ni_5, ni_6, ni_7, ni_8, ni_9, ni_10, ni_12, ni_13, ni_14, ni_15, ni_16, ni_17, ni_18, ni_20, ni_22, ni_24, ni_26, ni_28, ni_30, ni_31, ni_32, ni_33, ni_34, ni_36, ni_37, ni_38, ni_40, ni_45, ni_46, ni_47, ni_48, ni_58, ni_63, ni_64, ni_79, ni_80, ni_81, ni_82, ni_83, ni_85, ni_87, ni_88, ni_92, ni_93, ni_94, ni_95, ni_96, ni_97, ni_99, ni_100, ni_127, ni_128, ni_144, ni_146, ni_147, ni_192, ni_217, ni_224, ni_255, ni_256, ni_512, ni_1024, ni_7168, ni_65535, ni_65536, ni_16500, ni_2147483647, nl_0, nl_1, nl_2, nl_14, nl_64, nl_16, nl_2147483647, nl_2147483648, nl_255, nl_38, nl_32, nl_97, nl_33] at h1 h2 h3 h4 h5)
            first | (exfalso; omega) | rw [if_pos (by omega)] | rw [if_neg (by omega)]
          · refine sm_iconst (v := 1) d_Ru_isTilingAlong_36 (by decide) ?_
            refine sm_goto (tgt := 41) d_Ru_isTilingAlong_37 (by decide) ?_
            refine sm_ireturn d_Ru_isTilingAlong_41 rfl (by decide) ?_
            refine ⟨rfl, ?_⟩
            (try simp only [lg_cmp_ge, lg_cmp_le, lg_cmp_gt, lg_cmp_lt, lg_cmp_eq, sm_b0, Classical.not_not] at h1 h2 h3 h4 h5)
            (try simp only [sm_lt, sm_le, sm_ltL, sm_leL, sm_eqI, sm_eqL, ni_m1, ni_0, ni_1, ni_2, ni_3, ni_4, ni_5, ni_6, ni_7, ni_8, ni_9, ni_10, ni_12, ni_13, ni_14, ni_15, ni_16, ni_17, ni_18, ni_20, ni_22, ni_24, ni_26, ni_28, ni_30, ni_31, ni_32, ni_33, ni_34, ni_36, ni_37, ni_38, ni_40, ni_45, ni_46, ni_47, ni_48, ni_58, ni_63, ni_64, ni_79, ni_80, ni_81, ni_82, ni_83, ni_85, ni_87, ni_88, ni_92, ni_93, ni_94, ni_95, ni_96, ni_97, ni_99, ni_100, ni_127, ni_128, ni_144, ni_146, ni_147, ni_192, ni_217, ni_224, ni_255, ni_256, ni_512, ni_1024, ni_7168, ni_65535, ni_65536, ni_16500, ni_2147483647, nl_0, nl_1, nl_2, nl_14, nl_64, nl_16, nl_2147483647, nl_2147483648, nl_255, nl_38, nl_32, nl_97, nl_33] at h1 h2 h3 h4 h5)
            first | (exfalso; omega) | rw [if_pos (by omega)] | rw [if_neg (by omega)]

set_option maxHeartbeats 4000000 in
set_option maxRecDepth 100000 in
theorem c_Ru_isTiling (x : Int64) (y : Int64) (w : Int64) (h : Int64) (x0 : Int64) (y0 : Int64) : sm_C G mf_Ru_isTiling [.long x, .long y, .long w, .long h, .long x0, .long y0] M 0 0 (sm_pu M (.int (if (0 ≤ x.toInt ∧ x.toInt ≤ x0.toInt ∧ 1 ≤ w.toInt ∧ w.toInt ≤ 2147483647 ∧ x0.toInt < (x + w).toInt) ∧ (0 ≤ y.toInt ∧ y.toInt ≤ y0.toInt ∧ 1 ≤ h.toInt ∧ h.toInt ≤ 2147483647 ∧ y0.toInt < (y + h).toInt) then 1 else 0))) := by
  refine sm_ofW rfl (Nat.le_of_ble_eq_true rfl) ?_
  refine sm_lload_n d_Ru_isTiling_0 rfl (j := 0) rfl ?_
  refine sm_lload d_Ru_isTiling_1 (j := 2) rfl ?_
  refine sm_lload d_Ru_isTiling_3 (j := 4) rfl ?_
  refine sm_callSp d_Ru_isTiling_5 cs_Ru_isTiling_11 rfl (As := [_, _, _]) rfl rfl (Nat.le_of_ble_eq_true rfl) (c_Ru_isTilingAlong _ _ _) ?_
  refine sm_if_eq (tgt := 26) d_Ru_isTiling_8 (by decide) (fun h1 => ?_) (fun h1 => ?_)
  · refine sm_iconst (v := 0) d_Ru_isTiling_26 (by decide) ?_
    refine sm_ireturn d_Ru_isTiling_27 rfl (by decide) ?_
    refine ⟨rfl, ?_⟩
    (try simp only [lg_cmp_ge, lg_cmp_le, lg_cmp_gt, lg_cmp_lt, lg_cmp_eq, sm_b0, Classical.not_not] at h1)
    (try simp only [sm_lt, sm_le, sm_ltL, sm_leL, sm_eqI, sm_eqL, ni_m1, ni_0, ni_1, ni_2, ni_3, ni_4, ni_5, ni_6, ni_7, ni_8, ni_9, ni_10, ni_12, ni_13, ni_14, ni_15, ni_16, ni_17, ni_18, ni_20, ni_22, ni_24, ni_26, ni_28, ni_30, ni_31, ni_32, ni_33, ni_34, ni_36, ni_37, ni_38, ni_40, ni_45, ni_46, ni_47, ni_48, ni_58, ni_63, ni_64, ni_79, ni_80, ni_81, ni_82, ni_83, ni_85, ni_87, ni_88, ni_92, ni_93, ni_94, ni_95, ni_96, ni_97, ni_99, ni_100, ni_127, ni_128, ni_144, ni_146, ni_147, ni_192, ni_217, ni_224, ni_255, ni_256, ni_512, ni_1024, ni_7168, ni_65535, ni_65536, ni_16500, ni_2147483647, nl_0, nl_1, nl_2, nl_14, nl_64, nl_16, nl_2147483647, nl_2147483648, nl_255, nl_38, nl_32, nl_97, nl_33] at h1)
    first | (exfalso; omega) | rw [if_pos (by omega)] | rw [if_neg (by omega)]
  · refine sm_lload_n d_Ru_isTiling_11 rfl (j := 1) rfl ?_
    refine sm_lload d_Ru_isTiling_12 (j := 3) rfl ?_
    refine sm_lload d_Ru_isTiling_14 (j := 5) rfl ?_
    refine sm_callSp d_Ru_isTiling_16 cs_Ru_isTiling_11 rfl (As := [_, _, _]) rfl rfl (Nat.le_of_ble_eq_true rfl) (c_Ru_isTilingAlong _ _ _) ?_
    refine sm_if_eq (tgt := 26) d_Ru_isTiling_19 (by decide) (fun h2 => ?_) (fun h2 => ?_)
    · refine sm_iconst (v := 0) d_Ru_isTiling_26 (by decide) ?_
      refine sm_ireturn d_Ru_isTiling_27 rfl (by decide) ?_
      refine ⟨rfl, ?_⟩
      (try simp only [lg_cmp_ge, lg_cmp_le, lg_cmp_gt, lg_cmp_lt, lg_cmp_eq, sm_b0, Classical.not_not] at h1 h2)
      (try simp only [sm_lt, sm_le, sm_ltL, sm_leL, sm_eqI, sm_eqL, ni_m1, ni_0, ni_1, ni_2, ni_3, ni_4, ni_5, ni_6, ni_7, ni_8, ni_9, ni_10, ni_12, ni_13, ni_14, ni_15, ni_16, ni_17, ni_18, ni_20, ni_22, ni_24, ni_26, ni_28, ni_30, ni_31, ni_32, ni_33, ni_34, ni_36, ni_37, ni_38, ni_40, ni_45, ni_46, ni_47, ni_48, ni_58, ni_63, ni_64, ni_79, ni_80, ni_81, ni_82, ni_83, ni_85, ni_87, ni_88, ni_92, ni_93, ni_94, ni_95, ni_96, ni_97, ni_99, ni_100, ni_127, ni_128, ni_144, ni_146, ni_147, ni_192, ni_217, ni_224, ni_255, ni_256, ni_512, ni_1024, ni_7168, ni_65535, ni_65536, ni_16500, ni_2147483647, nl_0, nl_1, nl_2, nl_14, nl_64, nl_16, nl_2147483647, nl_2147483648, nl_255, nl_38, nl_32, nl_97, nl_33] at h1 h2)
      first | (exfalso; omega) | rw [if_pos (by omega)] | rw [if_neg (by omega)]
    · refine sm_iconst (v := 1) d_Ru_isTiling_22 (by decide) ?_
      refine sm_goto (tgt := 27) d_Ru_isTiling_23 (by decide) ?_
      refine sm_ireturn d_Ru_isTiling_27 rfl (by decide) ?_
      refine ⟨rfl, ?_⟩
      (try simp only [lg_cmp_ge, lg_cmp_le, lg_cmp_gt, lg_cmp_lt, lg_cmp_eq, sm_b0, Classical.not_not] at h1 h2)
      (try simp only [sm_lt, sm_le, sm_ltL, sm_leL, sm_eqI, sm_eqL, ni_m1, ni_0, ni_1, ni_2, ni_3, ni_4, ni_5, ni_6, ni_7, ni_8, ni_9, ni_10, ni_12, ni_13, ni_14, ni_15, ni_16, ni_17, ni_18, ni_20, ni_22, ni_24, ni_26, ni_28, ni_30, ni_31, ni_32, ni_33, ni_34, ni_36, ni_37, ni_38, ni_40, ni_45, ni_46, ni_47, ni_48, ni_58, ni_63, ni_64, ni_79, ni_80, ni_81, ni_82, ni_83, ni_85, ni_87, ni_88, ni_92, ni_93, ni_94, ni_95, ni_96, ni_97, ni_99, ni_100, ni_127, ni_128, ni_144, ni_146, ni_147, ni_192, ni_217, ni_224, ni_255, ni_256, ni_512, ni_1024, ni_7168, ni_65535, ni_65536, ni_16500, ni_2147483647, nl_0, nl_1, nl_2, nl_14, nl_64, nl_16, nl_2147483647, nl_2147483648, nl_255, nl_38, nl_32, nl_97, nl_33] at h1 h2)
      first | (exfalso; omega) | rw [if_pos (by omega)] | rw [if_neg (by omega)]

set_option maxHeartbeats 4000000 in
set_option maxRecDepth 100000 in
theorem c_Ru_countAlong (a w e : Int64) : sm_C G mf_Ru_countAlong [.long a, .long w, .long e] M 0 0 (sm_pu M (.long (if w.toInt < 1 then 0 else (e - a + w - 1) / w))) := by
  refine sm_ofW rfl (Nat.le_of_ble_eq_true rfl) ?_
  refine sm_lload_n d_Ru_countAlong_0 rfl (j := 1) rfl ?_
  refine sm_lconst (v := 1) d_Ru_countAlong_1 (by decide) ?_
  refine sm_lcmp d_Ru_countAlong_2 ?_
  refine sm_if_ge (tgt := 10) d_Ru_countAlong_3 (by decide) (fun h1 => ?_) (fun h1 => ?_)
  · refine sm_lload d_Ru_countAlong_10 (j := 2) rfl ?_
    refine sm_lload_n d_Ru_countAlong_12 rfl (j := 0) rfl ?_
    refine sm_lsub d_Ru_countAlong_13 ?_
    refine sm_lload_n d_Ru_countAlong_14 rfl (j := 1) rfl ?_
    refine sm_ladd d_Ru_countAlong_15 ?_
    refine sm_lconst (v := 1) d_Ru_countAlong_16 (by decide) ?_
    refine sm_lsub d_Ru_countAlong_17 ?_
    refine sm_lload_n d_Ru_countAlong_18 rfl (j := 1) rfl ?_
    refine sm_ldiv d_Ru_countAlong_19 (by (try simp only [lg_cmp_ge, lg_cmp_le, lg_cmp_gt, lg_cmp_lt, lg_cmp_eq, sm_b0, Classical.not_not] at h1); (try simp only [sm_lt, sm_le, sm_ltL, sm_leL, sm_eqI, sm_eqL, ni_m1, ni_0, ni_1, ni_2, ni_3, ni_4, ni_5, ni_6, ni_7, ni_8, ni_9, ni_10, ni_12, ni_13, ni_14, ni_15, ni_16, ni_17, ni_18, ni_20, ni_22, ni_24, ni_26, ni_28, ni_30, ni_31, ni_32, ni_33, ni_34, ni_36, ni_37, ni_38, ni_40, ni_45, ni_46, ni_47, ni_48, ni_58, ni_63, ni_64, ni_79, ni_80, ni_81, ni_82, ni_83, ni_85, ni_87, ni_88, ni_92, ni_93, ni_94, ni_95, ni_96, ni_97, ni_99, ni_100, ni_127, ni_128, ni_144, ni_146, ni_147, ni_192, ni_217, ni_224, ni_255, ni_256, ni_512, ni_1024, ni_7168, ni_65535, ni_65536, ni_16500, ni_2147483647, nl_0, nl_1, nl_2, nl_14, nl_64, nl_16, nl_2147483647, nl_2147483648, nl_255, nl_38, nl_32, nl_97, nl_33] at h1); intro h9; rw [sm_eqL, nl_0] at h9; omega) ?_
    refine sm_lreturn d_Ru_countAlong_20 rfl ?_
    refine ⟨rfl, ?_⟩
    (try simp only [lg_cmp_ge, lg_cmp_le, lg_cmp_gt, lg_cmp_lt, lg_cmp_eq, sm_b0, Classical.not_not] at h1)
    (try simp only [sm_lt, sm_le, sm_ltL, sm_leL, sm_eqI, sm_eqL, ni_m1, ni_0, ni_1, ni_2, ni_3, ni_4, ni_5, ni_6, ni_7, ni_8, ni_9, ni_10, ni_12, ni_13, ni_14, ni_15, ni_16, ni_17, ni_18, ni_20, ni_22, ni_24, ni_26, ni_28, ni_30, ni_31, ni_32, ni_33, ni_34, ni_36, ni_37, ni_38, ni_40, ni_45, ni_46, ni_47, ni_48, ni_58, ni_63, ni_64, ni_79, ni_80, ni_81, ni_82, ni_83, ni_85, ni_87, ni_88, ni_92, ni_93, ni_94, ni_95, ni_96, ni_97, ni_99, ni_100, ni_127, ni_128, ni_144, ni_146, ni_147, ni_192, ni_217, ni_224, ni_255, ni_256, ni_512, ni_1024, ni_7168, ni_65535, ni_65536, ni_16500, ni_2147483647, nl_0, nl_1, nl_2, nl_14, nl_64, nl_16, nl_2147483647, nl_2147483648, nl_255, nl_38, nl_32, nl_97, nl_33] at h1)
    first | (exfalso; omega) | rw [if_pos (by omega)] | rw [if_neg (by omega)]
  · refine sm_lconst (v := 0) d_Ru_countAlong_6 (by decide) ?_
    refine sm_goto (tgt := 20) d_Ru_countAlong_7 (by decide) ?_
    refine sm_lreturn d_Ru_countAlong_20 rfl ?_
    refine ⟨rfl, ?_⟩
    (try simp only [lg_cmp_ge, lg_cmp_le, lg_cmp_gt, lg_cmp_lt, lg_cmp_eq, sm_b0, Classical.not_not] at h1)
    (try simp only [sm_lt, sm_le, sm_ltL, sm_leL, sm_eqI, sm_eqL, ni_m1, ni_0, ni_1, ni_2, ni_3, ni_4, ni_5, ni_6, ni_7, ni_8, ni_9, ni_10, ni_12, ni_13, ni_14, ni_15, ni_16, ni_17, ni_18, ni_20, ni_22, ni_24, ni_26, ni_28, ni_30, ni_31, ni_32, ni_33, ni_34, ni_36, ni_37, ni_38, ni_40, ni_45, ni_46, ni_47, ni_48, ni_58, ni_63, ni_64, ni_79, ni_80, ni_81, ni_82, ni_83, ni_85, ni_87, ni_88, ni_92, ni_93, ni_94, ni_95, ni_96, ni_97, ni_99, ni_100, ni_127, ni_128, ni_144, ni_146, ni_147, ni_192, ni_217, ni_224, ni_255, ni_256, ni_512, ni_1024, ni_7168, ni_65535, ni_65536, ni_16500, ni_2147483647, nl_0, nl_1, nl_2, nl_14, nl_64, nl_16, nl_2147483647, nl_2147483648, nl_255, nl_38, nl_32, nl_97, nl_33] at h1)
    first | (exfalso; omega) | rw [if_pos (by omega)] | rw [if_neg (by omega)]

set_option maxHeartbeats 4000000 in
set_option maxRecDepth 100000 in
theorem c_Ru_countTiles (x y w h x1 y1 : Int64) : sm_C G mf_Ru_countTiles [.long x, .long y, .long w, .long h, .long x1, .long y1] M 0 0 (sm_pu M (.long ((if w.toInt < 1 then 0 else (x1 - x + w - 1) / w) * (if h.toInt < 1 then 0 else (y1 - y + h - 1) / h)))) := by
  refine sm_ofW rfl (Nat.le_of_ble_eq_true rfl) ?_
  refine sm_lload_n d_Ru_countTiles_0 rfl (j := 0) rfl ?_
  refine sm_lload d_Ru_countTiles_1 (j := 2) rfl ?_
  refine sm_lload d_Ru_countTiles_3 (j := 4) rfl ?_
  refine sm_callSp d_Ru_countTiles_5 cs_Ru_countTiles_17 rfl (As := [_, _, _]) rfl rfl (Nat.le_of_ble_eq_true rfl) (c_Ru_countAlong _ _ _) ?_
  refine sm_lload_n d_Ru_countTiles_8 rfl (j := 1) rfl ?_
  refine sm_lload d_Ru_countTiles_9 (j := 3) rfl ?_
  refine sm_lload d_Ru_countTiles_11 (j := 5) rfl ?_
  refine sm_callSp d_Ru_countTiles_13 cs_Ru_countTiles_17 rfl (As := [_, _, _]) rfl rfl (Nat.le_of_ble_eq_true rfl) (c_Ru_countAlong _ _ _) ?_
  refine sm_lmul d_Ru_countTiles_16 ?_
  refine sm_lreturn d_Ru_countTiles_17 rfl ?_
  exact ⟨rfl, rfl⟩

set_option maxHeartbeats 4000000 in
set_option maxRecDepth 100000 in
theorem c_Ru_isComponent (b : Int32) (dx : Int32) (dy : Int32) : sm_C G mf_Ru_isComponent [.int b, .int dx, .int dy] M 0 0 (sm_pu M (.int (if 1 ≤ b.toInt ∧ b.toInt ≤ 38 ∧ 1 ≤ dx.toInt ∧ dx.toInt ≤ 255 ∧ 1 ≤ dy.toInt ∧ dy.toInt ≤ 255 then 1 else 0))) := by
  refine sm_ofW rfl (Nat.le_of_ble_eq_true rfl) ?_
  refine sm_iload_n d_Ru_isComponent_0 rfl (j := 0) rfl ?_
  refine sm_iconst (v := 1) d_Ru_isComponent_1 (by decide) ?_
  refine sm_icmp_lt (tgt := 39) d_Ru_isComponent_2 (by decide) (fun h1 => ?_) (fun h1 => ?_)
  · refine sm_iconst (v := 0) d_Ru_isComponent_39 (by decide) ?_
    refine sm_ireturn d_Ru_isComponent_40 rfl (by decide) ?_
    refine ⟨rfl, ?_⟩
    (try simp only [lg_cmp_ge, lg_cmp_le, lg_cmp_gt, lg_cmp_lt, lg_cmp_eq, sm_b0, Classical.not_not] at h1)
    (try simp only [sm_lt, sm_le, sm_ltL, sm_leL, sm_eqI, sm_eqL, ni_m1, ni_0, ni_1, ni_2, ni_3, ni_4, ni_5, ni_6, ni_7, ni_8, ni_9, ni_10, ni_12, ni_13, ni_14, ni_15, ni_16, ni_17, ni_18, ni_20, ni_22, ni_24, ni_26, ni_28, ni_30, ni_31, ni_32, ni_33, ni_34, ni_36, ni_37, ni_38, ni_40, ni_45, ni_46, ni_47, ni_48, ni_58, ni_63, ni_64, ni_79, ni_80, ni_81, ni_82, ni_83, ni_85, ni_87, ni_88, ni_92, ni_93, ni_94, ni_95, ni_96, ni_97, ni_99, ni_100, ni_127, ni_128, ni_144, ni_146, ni_147, ni_192, ni_217, ni_224, ni_255, ni_256, ni_512, ni_1024, ni_7168, ni_65535, ni_65536, ni_16500, ni_2147483647, nl_0, nl_1, nl_2, nl_14, nl_64, nl_16, nl_2147483647, nl_2147483648, nl_255, nl_38, nl_32, nl_97, nl_33] at h1)
    first | (exfalso; omega) | rw [if_pos (by omega)] | rw [if_neg (by omega)]
  · refine sm_iload_n d_Ru_isComponent_5 rfl (j := 0) rfl ?_
    refine sm_bipush (v := 38) d_Ru_isComponent_6 (by decide) ?_
    refine sm_icmp_gt (tgt := 39) d_Ru_isComponent_8 (by decide) (fun h2 => ?_) (fun h2 => ?_)
    · refine sm_iconst (v := 0) d_Ru_isComponent_39 (by decide) ?_
      refine sm_ireturn d_Ru_isComponent_40 rfl (by decide) ?_
      refine ⟨rfl, ?_⟩
      (try simp only [lg_cmp_ge, lg_cmp_le, lg_cmp_gt, lg_cmp_lt, lg_cmp_eq, sm_b0, Classical.not_not] at h1 h2)
      (try simp only [sm_lt, sm_le, sm_ltL, sm_leL, sm_eqI, sm_eqL, ni_m1, ni_0, ni_1, ni_2, ni_3, ni_4, ni_5, ni_6, ni_7, ni_8, ni_9, ni_10, ni_12, ni_13, ni_14, ni_15, ni_16, ni_17, ni_18, ni_20, ni_22, ni_24, ni_26, ni_28, ni_30, ni_31, ni_32, ni_33, ni_34, ni_36, ni_37, ni_38, ni_40, ni_45, ni_46, ni_47, ni_48, ni_58, ni_63, ni_64, ni_79, ni_80, ni_81, ni_82, ni_83, ni_85, ni_87, ni_88, ni_92, ni_93, ni_94, ni_95, ni_96, ni_97, ni_99, ni_100, ni_127, ni_128, ni_144, ni_146, ni_147, ni_192, ni_217, ni_224, ni_255, ni_256, ni_512, ni_1024, ni_7168, ni_65535, ni_65536, ni_16500, ni_2147483647, nl_0, nl_1, nl_2, nl_14, nl_64, nl_16, nl_2147483647, nl_2147483648, nl_255, nl_38, nl_32, nl_97, nl_33] at h1 h2)
      first | (exfalso; omega) | rw [if_pos (by omega)] | rw [if_neg (by omega)]
    · refine sm_iload_n d_Ru_isComponent_11 rfl (j := 1) rfl ?_
      refine sm_iconst (v := 1) d_Ru_isComponent_12 (by decide) ?_
      refine sm_icmp_lt (tgt := 39) d_Ru_isComponent_13 (by decide) (fun h3 => ?_) (fun h3 => ?_)
      · refine sm_iconst (v := 0) d_Ru_isComponent_39 (by decide) ?_
        refine sm_ireturn d_Ru_isComponent_40 rfl (by decide) ?_
        refine ⟨rfl, ?_⟩
        (try simp only [lg_cmp_ge, lg_cmp_le, lg_cmp_gt, lg_cmp_lt, lg_cmp_eq, sm_b0, Classical.not_not] at h1 h2 h3)
        (try simp only [sm_lt, sm_le, sm_ltL, sm_leL, sm_eqI, sm_eqL, ni_m1, ni_0, ni_1, ni_2, ni_3, ni_4, ni_5, ni_6, ni_7, ni_8, ni_9, ni_10, ni_12, ni_13, ni_14, ni_15, ni_16, ni_17, ni_18, ni_20, ni_22, ni_24, ni_26, ni_28, ni_30, ni_31, ni_32, ni_33, ni_34, ni_36, ni_37, ni_38, ni_40, ni_45, ni_46, ni_47, ni_48, ni_58, ni_63, ni_64, ni_79, ni_80, ni_81, ni_82, ni_83, ni_85, ni_87, ni_88, ni_92, ni_93, ni_94, ni_95, ni_96, ni_97, ni_99, ni_100, ni_127, ni_128, ni_144, ni_146, ni_147, ni_192, ni_217, ni_224, ni_255, ni_256, ni_512, ni_1024, ni_7168, ni_65535, ni_65536, ni_16500, ni_2147483647, nl_0, nl_1, nl_2, nl_14, nl_64, nl_16, nl_2147483647, nl_2147483648, nl_255, nl_38, nl_32, nl_97, nl_33] at h1 h2 h3)
        first | (exfalso; omega) | rw [if_pos (by omega)] | rw [if_neg (by omega)]
      · refine sm_iload_n d_Ru_isComponent_16 rfl (j := 1) rfl ?_
        refine sm_sipush (v := 255) d_Ru_isComponent_17 (by decide) ?_
        refine sm_icmp_gt (tgt := 39) d_Ru_isComponent_20 (by decide) (fun h4 => ?_) (fun h4 => ?_)
        · refine sm_iconst (v := 0) d_Ru_isComponent_39 (by decide) ?_
          refine sm_ireturn d_Ru_isComponent_40 rfl (by decide) ?_
          refine ⟨rfl, ?_⟩
          (try simp only [lg_cmp_ge, lg_cmp_le, lg_cmp_gt, lg_cmp_lt, lg_cmp_eq, sm_b0, Classical.not_not] at h1 h2 h3 h4)
          (try simp only [sm_lt, sm_le, sm_ltL, sm_leL, sm_eqI, sm_eqL, ni_m1, ni_0, ni_1, ni_2, ni_3, ni_4, ni_5, ni_6, ni_7, ni_8, ni_9, ni_10, ni_12, ni_13, ni_14, ni_15, ni_16, ni_17, ni_18, ni_20, ni_22, ni_24, ni_26, ni_28, ni_30, ni_31, ni_32, ni_33, ni_34, ni_36, ni_37, ni_38, ni_40, ni_45, ni_46, ni_47, ni_48, ni_58, ni_63, ni_64, ni_79, ni_80, ni_81, ni_82, ni_83, ni_85, ni_87, ni_88, ni_92, ni_93, ni_94, ni_95, ni_96, ni_97, ni_99, ni_100, ni_127, ni_128, ni_144, ni_146, ni_147, ni_192, ni_217, ni_224, ni_255, ni_256, ni_512, ni_1024, ni_7168, ni_65535, ni_65536, ni_16500, ni_2147483647, nl_0, nl_1, nl_2, nl_14, nl_64, nl_16, nl_2147483647, nl_2147483648, nl_255, nl_38, nl_32, nl_97, nl_33] at h1 h2 h3 h4)
          first | (exfalso; omega) | rw [if_pos (by omega)] | rw [if_neg (by omega)]
        · refine sm_iload_n d_Ru_isComponent_23 rfl (j := 2) rfl ?_
          refine sm_iconst (v := 1) d_Ru_isComponent_24 (by decide) ?_
          refine sm_icmp_lt (tgt := 39) d_Ru_isComponent_25 (by decide) (fun h5 => ?_) (fun h5 => ?_)
          · refine sm_iconst (v := 0) d_Ru_isComponent_39 (by decide) ?_
            refine sm_ireturn d_Ru_isComponent_40 rfl (by decide) ?_
            refine ⟨rfl, ?_⟩
            (try simp only [lg_cmp_ge, lg_cmp_le, lg_cmp_gt, lg_cmp_lt, lg_cmp_eq, sm_b0, Classical.not_not] at h1 h2 h3 h4 h5)
            (try simp only [sm_lt, sm_le, sm_ltL, sm_leL, sm_eqI, sm_eqL, ni_m1, ni_0, ni_1, ni_2, ni_3, ni_4, ni_5, ni_6, ni_7, ni_8, ni_9, ni_10, ni_12, ni_13, ni_14, ni_15, ni_16, ni_17, ni_18, ni_20, ni_22, ni_24, ni_26, ni_28, ni_30, ni_31, ni_32, ni_33, ni_34, ni_36, ni_37, ni_38, ni_40, ni_45, ni_46, ni_47, ni_48, ni_58, ni_63, ni_64, ni_79, ni_80, ni_81, ni_82, ni_83, ni_85, ni_87, ni_88, ni_92, ni_93, ni_94, ni_95, ni_96, ni_97, ni_99, ni_100, ni_127, ni_128, ni_144, ni_146, ni_147, ni_192, ni_217, ni_224, ni_255, ni_256, ni_512, ni_1024, ni_7168, ni_65535, ni_65536, ni_16500, ni_2147483647, nl_0, nl_1, nl_2, nl_14, nl_64, nl_16, nl_2147483647, nl_2147483648, nl_255, nl_38, nl_32, nl_97, nl_33] at h1 h2 h3 h4 h5)
            first | (exfalso; omega) | rw [if_pos (by omega)] | rw [if_neg (by omega)]
          · refine sm_iload_n d_Ru_isComponent_28 rfl (j := 2) rfl ?_
            refine sm_sipush (v := 255) d_Ru_isComponent_29 (by decide) ?_
            refine sm_icmp_gt (tgt := 39) d_Ru_isComponent_32 (by decide) (fun h6 => ?_) (fun h6 => ?_)
            · refine sm_iconst (v := 0) d_Ru_isComponent_39 (by decide) ?_
              refine sm_ireturn d_Ru_isComponent_40 rfl (by decide) ?_
              refine ⟨rfl, ?_⟩
              (try simp only [lg_cmp_ge, lg_cmp_le, lg_cmp_gt, lg_cmp_lt, lg_cmp_eq, sm_b0, Classical.not_not] at h1 h2 h3 h4 h5 h6)
              (try simp only [sm_lt, sm_le, sm_ltL, sm_leL, sm_eqI, sm_eqL, ni_m1, ni_0, ni_1, ni_2, ni_3, ni_4, ni_5, ni_6, ni_7, ni_8, ni_9, ni_10, ni_12, ni_13, ni_14, ni_15, ni_16, ni_17, ni_18, ni_20, ni_22, ni_24, ni_26, ni_28, ni_30, ni_31, ni_32, ni_33, ni_34, ni_36, ni_37, ni_38, ni_40, ni_45, ni_46, ni_47, ni_48, ni_58, ni_63, ni_64, ni_79, ni_80, ni_81, ni_82, ni_83, ni_85, ni_87, ni_88, ni_92, ni_93, ni_94, ni_95, ni_96, ni_97, ni_99, ni_100, ni_127, ni_128, ni_144, ni_146, ni_147, ni_192, ni_217, ni_224, ni_255, ni_256, ni_512, ni_1024, ni_7168, ni_65535, ni_65536, ni_16500, ni_2147483647, nl_0, nl_1, nl_2, nl_14, nl_64, nl_16, nl_2147483647, nl_2147483648, nl_255, nl_38, nl_32, nl_97, nl_33] at h1 h2 h3 h4 h5 h6)
              first | (exfalso; omega) | rw [if_pos (by omega)] | rw [if_neg (by omega)]
            · refine sm_iconst (v := 1) d_Ru_isComponent_35 (by decide) ?_
              refine sm_goto (tgt := 40) d_Ru_isComponent_36 (by decide) ?_
              refine sm_ireturn d_Ru_isComponent_40 rfl (by decide) ?_
              refine ⟨rfl, ?_⟩
              (try simp only [lg_cmp_ge, lg_cmp_le, lg_cmp_gt, lg_cmp_lt, lg_cmp_eq, sm_b0, Classical.not_not] at h1 h2 h3 h4 h5 h6)
              (try simp only [sm_lt, sm_le, sm_ltL, sm_leL, sm_eqI, sm_eqL, ni_m1, ni_0, ni_1, ni_2, ni_3, ni_4, ni_5, ni_6, ni_7, ni_8, ni_9, ni_10, ni_12, ni_13, ni_14, ni_15, ni_16, ni_17, ni_18, ni_20, ni_22, ni_24, ni_26, ni_28, ni_30, ni_31, ni_32, ni_33, ni_34, ni_36, ni_37, ni_38, ni_40, ni_45, ni_46, ni_47, ni_48, ni_58, ni_63, ni_64, ni_79, ni_80, ni_81, ni_82, ni_83, ni_85, ni_87, ni_88, ni_92, ni_93, ni_94, ni_95, ni_96, ni_97, ni_99, ni_100, ni_127, ni_128, ni_144, ni_146, ni_147, ni_192, ni_217, ni_224, ni_255, ni_256, ni_512, ni_1024, ni_7168, ni_65535, ni_65536, ni_16500, ni_2147483647, nl_0, nl_1, nl_2, nl_14, nl_64, nl_16, nl_2147483647, nl_2147483648, nl_255, nl_38, nl_32, nl_97, nl_33] at h1 h2 h3 h4 h5 h6)
              first | (exfalso; omega) | rw [if_pos (by omega)] | rw [if_neg (by omega)]

set_option maxHeartbeats 4000000 in
set_option maxRecDepth 100000 in
theorem c_Ru_isOrder (o : Int32) : sm_C G mf_Ru_isOrder [.int o] M 0 0 (sm_pu M (.int (if 0 ≤ o.toInt ∧ o.toInt ≤ 4 then 1 else 0))) := by
  refine sm_ofW rfl (Nat.le_of_ble_eq_true rfl) ?_
  refine sm_iload_n d_Ru_isOrder_0 rfl (j := 0) rfl ?_
  refine sm_if_lt (tgt := 13) d_Ru_isOrder_1 (by decide) (fun h1 => ?_) (fun h1 => ?_)
  · refine sm_iconst (v := 0) d_Ru_isOrder_13 (by decide) ?_
    refine sm_ireturn d_Ru_isOrder_14 rfl (by decide) ?_
    refine ⟨rfl, ?_⟩
    (try simp only [lg_cmp_ge, lg_cmp_le, lg_cmp_gt, lg_cmp_lt, lg_cmp_eq, sm_b0, Classical.not_not] at h1)
    (try simp only [sm_lt, sm_le, sm_ltL, sm_leL, sm_eqI, sm_eqL, ni_m1, ni_0, ni_1, ni_2, ni_3, ni_4, ni_5, ni_6, ni_7, ni_8, ni_9, ni_10, ni_12, ni_13, ni_14, ni_15, ni_16, ni_17, ni_18, ni_20, ni_22, ni_24, ni_26, ni_28, ni_30, ni_31, ni_32, ni_33, ni_34, ni_36, ni_37, ni_38, ni_40, ni_45, ni_46, ni_47, ni_48, ni_58, ni_63, ni_64, ni_79, ni_80, ni_81, ni_82, ni_83, ni_85, ni_87, ni_88, ni_92, ni_93, ni_94, ni_95, ni_96, ni_97, ni_99, ni_100, ni_127, ni_128, ni_144, ni_146, ni_147, ni_192, ni_217, ni_224, ni_255, ni_256, ni_512, ni_1024, ni_7168, ni_65535, ni_65536, ni_16500, ni_2147483647, nl_0, nl_1, nl_2, nl_14, nl_64, nl_16, nl_2147483647, nl_2147483648, nl_255, nl_38, nl_32, nl_97, nl_33] at h1)
    first | (exfalso; omega) | rw [if_pos (by omega)] | rw [if_neg (by omega)]
  · refine sm_iload_n d_Ru_isOrder_4 rfl (j := 0) rfl ?_
    refine sm_iconst (v := 4) d_Ru_isOrder_5 (by decide) ?_
    refine sm_icmp_gt (tgt := 13) d_Ru_isOrder_6 (by decide) (fun h2 => ?_) (fun h2 => ?_)
    · refine sm_iconst (v := 0) d_Ru_isOrder_13 (by decide) ?_
      refine sm_ireturn d_Ru_isOrder_14 rfl (by decide) ?_
      refine ⟨rfl, ?_⟩
      (try simp only [lg_cmp_ge, lg_cmp_le, lg_cmp_gt, lg_cmp_lt, lg_cmp_eq, sm_b0, Classical.not_not] at h1 h2)
      (try simp only [sm_lt, sm_le, sm_ltL, sm_leL, sm_eqI, sm_eqL, ni_m1, ni_0, ni_1, ni_2, ni_3, ni_4, ni_5, ni_6, ni_7, ni_8, ni_9, ni_10, ni_12, ni_13, ni_14, ni_15, ni_16, ni_17, ni_18, ni_20, ni_22, ni_24, ni_26, ni_28, ni_30, ni_31, ni_32, ni_33, ni_34, ni_36, ni_37, ni_38, ni_40, ni_45, ni_46, ni_47, ni_48, ni_58, ni_63, ni_64, ni_79, ni_80, ni_81, ni_82, ni_83, ni_85, ni_87, ni_88, ni_92, ni_93, ni_94, ni_95, ni_96, ni_97, ni_99, ni_100, ni_127, ni_128, ni_144, ni_146, ni_147, ni_192, ni_217, ni_224, ni_255, ni_256, ni_512, ni_1024, ni_7168, ni_65535, ni_65536, ni_16500, ni_2147483647, nl_0, nl_1, nl_2, nl_14, nl_64, nl_16, nl_2147483647, nl_2147483648, nl_255, nl_38, nl_32, nl_97, nl_33] at h1 h2)
      first | (exfalso; omega) | rw [if_pos (by omega)] | rw [if_neg (by omega)]
    · refine sm_iconst (v := 1) d_Ru_isOrder_9 (by decide) ?_
      refine sm_goto (tgt := 14) d_Ru_isOrder_10 (by decide) ?_
      refine sm_ireturn d_Ru_isOrder_14 rfl (by decide) ?_
      refine ⟨rfl, ?_⟩
      (try simp only [lg_cmp_ge, lg_cmp_le, lg_cmp_gt, lg_cmp_lt, lg_cmp_eq, sm_b0, Classical.not_not] at h1 h2)
      (try simp only [sm_lt, sm_le, sm_ltL, sm_leL, sm_eqI, sm_eqL, ni_m1, ni_0, ni_1, ni_2, ni_3, ni_4, ni_5, ni_6, ni_7, ni_8, ni_9, ni_10, ni_12, ni_13, ni_14, ni_15, ni_16, ni_17, ni_18, ni_20, ni_22, ni_24, ni_26, ni_28, ni_30, ni_31, ni_32, ni_33, ni_34, ni_36, ni_37, ni_38, ni_40, ni_45, ni_46, ni_47, ni_48, ni_58, ni_63, ni_64, ni_79, ni_80, ni_81, ni_82, ni_83, ni_85, ni_87, ni_88, ni_92, ni_93, ni_94, ni_95, ni_96, ni_97, ni_99, ni_100, ni_127, ni_128, ni_144, ni_146, ni_147, ni_192, ni_217, ni_224, ni_255, ni_256, ni_512, ni_1024, ni_7168, ni_65535, ni_65536, ni_16500, ni_2147483647, nl_0, nl_1, nl_2, nl_14, nl_64, nl_16, nl_2147483647, nl_2147483648, nl_255, nl_38, nl_32, nl_97, nl_33] at h1 h2)
      first | (exfalso; omega) | rw [if_pos (by omega)] | rw [if_neg (by omega)]

set_option maxHeartbeats 4000000 in
set_option maxRecDepth 100000 in
theorem c_Ru_isCoding (n : Int32) (bw : Int32) (bh : Int32) (st : Int32) : sm_C G mf_Ru_isCoding [.int n, .int bw, .int bh, .int st] M 0 0 (sm_pu M (.int (if 0 ≤ n.toInt ∧ n.toInt ≤ 32 ∧ 2 ≤ bw.toInt ∧ bw.toInt ≤ 10 ∧ 2 ≤ bh.toInt ∧ bh.toInt ≤ 10 ∧ (bw + bh).toInt ≤ 12 ∧ 0 ≤ st.toInt ∧ st.toInt < 64 then 1 else 0))) := by
  refine sm_ofW rfl (Nat.le_of_ble_eq_true rfl) ?_
  refine sm_iload_n d_Ru_isCoding_0 rfl (j := 0) rfl ?_
  refine sm_if_lt (tgt := 54) d_Ru_isCoding_1 (by decide) (fun h1 => ?_) (fun h1 => ?_)
  · refine sm_iconst (v := 0) d_Ru_isCoding_54 (by decide) ?_
    refine sm_ireturn d_Ru_isCoding_55 rfl (by decide) ?_
    refine ⟨rfl, ?_⟩
    (try simp only [lg_cmp_ge, lg_cmp_le, lg_cmp_gt, lg_cmp_lt, lg_cmp_eq, sm_b0, Classical.not_not] at h1)
    (try simp only [sm_lt, sm_le, sm_ltL, sm_leL, sm_eqI, sm_eqL, ni_m1, ni_0, ni_1, ni_2, ni_3, ni_4, ni_5, ni_6, ni_7, ni_8, ni_9, ni_10, ni_12, ni_13, ni_14, ni_15, ni_16, ni_17, ni_18, ni_20, ni_22, ni_24, ni_26, ni_28, ni_30, ni_31, ni_32, ni_33, ni_34, ni_36, ni_37, ni_38, ni_40, ni_45, ni_46, ni_47, ni_48, ni_58, ni_63, ni_64, ni_79, ni_80, ni_81, ni_82, ni_83, ni_85, ni_87, ni_88, ni_92, ni_93, ni_94, ni_95, ni_96, ni_97, ni_99, ni_100, ni_127, ni_128, ni_144, ni_146, ni_147, ni_192, ni_217, ni_224, ni_255, ni_256, ni_512, ni_1024, ni_7168, ni_65535, ni_65536, ni_16500, ni_2147483647, nl_0, nl_1, nl_2, nl_14, nl_64, nl_16, nl_2147483647, nl_2147483648, nl_255, nl_38, nl_32, nl_97, nl_33] at h1)
    first | (exfalso; omega) | rw [if_pos (by omega)] | rw [if_neg (by omega)]
  · refine sm_iload_n d_Ru_isCoding_4 rfl (j := 0) rfl ?_
    refine sm_bipush (v := 32) d_Ru_isCoding_5 (by decide) ?_
    refine sm_icmp_gt (tgt := 54) d_Ru_isCoding_7 (by decide) (fun h2 => ?_) (fun h2 => ?_)
    · refine sm_iconst (v := 0) d_Ru_isCoding_54 (by decide) ?_
      refine sm_ireturn d_Ru_isCoding_55 rfl (by decide) ?_
      refine ⟨rfl, ?_⟩
      (try simp only [lg_cmp_ge, lg_cmp_le, lg_cmp_gt, lg_cmp_lt, lg_cmp_eq, sm_b0, Classical.not_not] at h1 h2)
      (try simp only [sm_lt, sm_le, sm_ltL, sm_leL, sm_eqI, sm_eqL, ni_m1, ni_0, ni_1, ni_2, ni_3, ni_4, ni_5, ni_6, ni_7, ni_8, ni_9, ni_10, ni_12, ni_13, ni_14, ni_15, ni_16, ni_17, ni_18, ni_20, ni_22, ni_24, ni_26, ni_28, ni_30, ni_31, ni_32, ni_33, ni_34, ni_36, ni_37, ni_38, ni_40, ni_45, ni_46, ni_47, ni_48, ni_58, ni_63, ni_64, ni_79, ni_80, ni_81, ni_82, ni_83, ni_85, ni_87, ni_88, ni_92, ni_93, ni_94, ni_95, ni_96, ni_97, ni_99, ni_100, ni_127, ni_128, ni_144, ni_146, ni_147, ni_192, ni_217, ni_224, ni_255, ni_256, ni_512, ni_1024, ni_7168, ni_65535, ni_65536, ni_16500, ni_2147483647, nl_0, nl_1, nl_2, nl_14, nl_64, nl_16, nl_2147483647, nl_2147483648, nl_255, nl_38, nl_32, nl_97, nl_33] at h1 h2)
      first | (exfalso; omega) | rw [if_pos (by omega)] | rw [if_neg (by omega)]
    · refine sm_iload_n d_Ru_isCoding_10 rfl (j := 1) rfl ?_
      refine sm_iconst (v := 2) d_Ru_isCoding_11 (by decide) ?_
      refine sm_icmp_lt (tgt := 54) d_Ru_isCoding_12 (by decide) (fun h3 => ?_) (fun h3 => ?_)
      · refine sm_iconst (v := 0) d_Ru_isCoding_54 (by decide) ?_
        refine sm_ireturn d_Ru_isCoding_55 rfl (by decide) ?_
        refine ⟨rfl, ?_⟩
        (try simp only [lg_cmp_ge, lg_cmp_le, lg_cmp_gt, lg_cmp_lt, lg_cmp_eq, sm_b0, Classical.not_not] at h1 h2 h3)
        (try simp only [sm_lt, sm_le, sm_ltL, sm_leL, sm_eqI, sm_eqL, ni_m1, ni_0, ni_1, ni_2, ni_3, ni_4, ni_5, ni_6, ni_7, ni_8, ni_9, ni_10, ni_12, ni_13, ni_14, ni_15, ni_16, ni_17, ni_18, ni_20, ni_22, ni_24, ni_26, ni_28, ni_30, ni_31, ni_32, ni_33, ni_34, ni_36, ni_37, ni_38, ni_40, ni_45, ni_46, ni_47, ni_48, ni_58, ni_63, ni_64, ni_79, ni_80, ni_81, ni_82, ni_83, ni_85, ni_87, ni_88, ni_92, ni_93, ni_94, ni_95, ni_96, ni_97, ni_99, ni_100, ni_127, ni_128, ni_144, ni_146, ni_147, ni_192, ni_217, ni_224, ni_255, ni_256, ni_512, ni_1024, ni_7168, ni_65535, ni_65536, ni_16500, ni_2147483647, nl_0, nl_1, nl_2, nl_14, nl_64, nl_16, nl_2147483647, nl_2147483648, nl_255, nl_38, nl_32, nl_97, nl_33] at h1 h2 h3)
        first | (exfalso; omega) | rw [if_pos (by omega)] | rw [if_neg (by omega)]
      · refine sm_iload_n d_Ru_isCoding_15 rfl (j := 1) rfl ?_
        refine sm_bipush (v := 10) d_Ru_isCoding_16 (by decide) ?_
        refine sm_icmp_gt (tgt := 54) d_Ru_isCoding_18 (by decide) (fun h4 => ?_) (fun h4 => ?_)
        · refine sm_iconst (v := 0) d_Ru_isCoding_54 (by decide) ?_
          refine sm_ireturn d_Ru_isCoding_55 rfl (by decide) ?_
          refine ⟨rfl, ?_⟩
          (try simp only [lg_cmp_ge, lg_cmp_le, lg_cmp_gt, lg_cmp_lt, lg_cmp_eq, sm_b0, Classical.not_not] at h1 h2 h3 h4)
          (try simp only [sm_lt, sm_le, sm_ltL, sm_leL, sm_eqI, sm_eqL, ni_m1, ni_0, ni_1, ni_2, ni_3, ni_4, ni_5, ni_6, ni_7, ni_8, ni_9, ni_10, ni_12, ni_13, ni_14, ni_15, ni_16, ni_17, ni_18, ni_20, ni_22, ni_24, ni_26, ni_28, ni_30, ni_31, ni_32, ni_33, ni_34, ni_36, ni_37, ni_38, ni_40, ni_45, ni_46, ni_47, ni_48, ni_58, ni_63, ni_64, ni_79, ni_80, ni_81, ni_82, ni_83, ni_85, ni_87, ni_88, ni_92, ni_93, ni_94, ni_95, ni_96, ni_97, ni_99, ni_100, ni_127, ni_128, ni_144, ni_146, ni_147, ni_192, ni_217, ni_224, ni_255, ni_256, ni_512, ni_1024, ni_7168, ni_65535, ni_65536, ni_16500, ni_2147483647, nl_0, nl_1, nl_2, nl_14, nl_64, nl_16, nl_2147483647, nl_2147483648, nl_255, nl_38, nl_32, nl_97, nl_33] at h1 h2 h3 h4)
          first | (exfalso; omega) | rw [if_pos (by omega)] | rw [if_neg (by omega)]
        · refine sm_iload_n d_Ru_isCoding_21 rfl (j := 2) rfl ?_
          refine sm_iconst (v := 2) d_Ru_isCoding_22 (by decide) ?_
          refine sm_icmp_lt (tgt := 54) d_Ru_isCoding_23 (by decide) (fun h5 => ?_) (fun h5 => ?_)
          · refine sm_iconst (v := 0) d_Ru_isCoding_54 (by decide) ?_
            refine sm_ireturn d_Ru_isCoding_55 rfl (by decide) ?_
            refine ⟨rfl, ?_⟩
            (try simp only [lg_cmp_ge, lg_cmp_le, lg_cmp_gt, lg_cmp_lt, lg_cmp_eq, sm_b0, Classical.not_not] at h1 h2 h3 h4 h5)
            (try simp only [sm_lt, sm_le, sm_ltL, sm_leL, sm_eqI, sm_eqL, ni_m1, ni_0, ni_1, ni_2, ni_3, ni_4, ni_5, ni_6, ni_7, ni_8, ni_9, ni_10, ni_12, ni_13, ni_14, ni_15, ni_16, ni_17, ni_18, ni_20, ni_22, ni_24, ni_26, ni_28, ni_30, ni_31, ni_32, ni_33, ni_34, ni_36, ni_37, ni_38, ni_40, ni_45, ni_46, ni_47, ni_48, ni_58, ni_63, ni_64, ni_79, ni_80, ni_81, ni_82, ni_83, ni_85, ni_87, ni_88, ni_92, ni_93, ni_94, ni_95, ni_96, ni_97, ni_99, ni_100, ni_127, ni_128, ni_144, ni_146, ni_147, ni_192, ni_217, ni_224, ni_255, ni_256, ni_512, ni_1024, ni_7168, ni_65535, ni_65536, ni_16500, ni_2147483647, nl_0, nl_1, nl_2, nl_14, nl_64, nl_16, nl_2147483647, nl_2147483648, nl_255, nl_38, nl_32, nl_97, nl_33] at h1 h2 h3 h4 h5)
            first | (exfalso; omega) | rw [if_pos (by omega)] | rw [if_neg (by omega)]
          · refine sm_iload_n d_Ru_isCoding_26 rfl (j := 2) rfl ?_
            refine sm_bipush (v := 10) d_Ru_isCoding_27 (by decide) ?_
            refine sm_icmp_gt (tgt := 54) d_Ru_isCoding_29 (by decide) (fun h6 => ?_) (fun h6 => ?_)
            · refine sm_iconst (v := 0) d_Ru_isCoding_54 (by decide) ?_
              refine sm_ireturn d_Ru_isCoding_55 rfl (by decide) ?_
              refine ⟨rfl, ?_⟩
              (try simp only [lg_cmp_ge, lg_cmp_le, lg_cmp_gt, lg_cmp_lt, lg_cmp_eq, sm_b0, Classical.not_not] at h1 h2 h3 h4 h5 h6)
              (try simp only [sm_lt, sm_le, sm_ltL, sm_leL, sm_eqI, sm_eqL, ni_m1, ni_0, ni_1, ni_2, ni_3, ni_4, ni_5, ni_6, ni_7, ni_8, ni_9, ni_10, ni_12, ni_13, ni_14, ni_15, ni_16, ni_17, ni_18, ni_20, ni_22, ni_24, ni_26, ni_28, ni_30, ni_31, ni_32, ni_33, ni_34, ni_36, ni_37, ni_38, ni_40, ni_45, ni_46, ni_47, ni_48, ni_58, ni_63, ni_64, ni_79, ni_80, ni_81, ni_82, ni_83, ni_85, ni_87, ni_88, ni_92, ni_93, ni_94, ni_95, ni_96, ni_97, ni_99, ni_100, ni_127, ni_128, ni_144, ni_146, ni_147, ni_192, ni_217, ni_224, ni_255, ni_256, ni_512, ni_1024, ni_7168, ni_65535, ni_65536, ni_16500, ni_2147483647, nl_0, nl_1, nl_2, nl_14, nl_64, nl_16, nl_2147483647, nl_2147483648, nl_255, nl_38, nl_32, nl_97, nl_33] at h1 h2 h3 h4 h5 h6)
              first | (exfalso; omega) | rw [if_pos (by omega)] | rw [if_neg (by omega)]
            · refine sm_iload_n d_Ru_isCoding_32 rfl (j := 1) rfl ?_
              refine sm_iload_n d_Ru_isCoding_33 rfl (j := 2) rfl ?_
              refine sm_iadd d_Ru_isCoding_34 ?_
              refine sm_bipush (v := 12) d_Ru_isCoding_35 (by decide) ?_
              refine sm_icmp_gt (tgt := 54) d_Ru_isCoding_37 (by decide) (fun h7 => ?_) (fun h7 => ?_)
              · refine sm_iconst (v := 0) d_Ru_isCoding_54 (by decide) ?_
                refine sm_ireturn d_Ru_isCoding_55 rfl (by decide) ?_
                refine ⟨rfl, ?_⟩
                (try simp only [lg_cmp_ge, lg_cmp_le, lg_cmp_gt, lg_cmp_lt, lg_cmp_eq, sm_b0, Classical.not_not] at h1 h2 h3 h4 h5 h6 h7)
                (try simp only [sm_lt, sm_le, sm_ltL, sm_leL, sm_eqI, sm_eqL, ni_m1, ni_0, ni_1, ni_2, ni_3, ni_4, ni_5, ni_6, ni_7, ni_8, ni_9, ni_10, ni_12, ni_13, ni_14, ni_15, ni_16, ni_17, ni_18, ni_20, ni_22, ni_24, ni_26, ni_28, ni_30, ni_31, ni_32, ni_33, ni_34, ni_36, ni_37, ni_38, ni_40, ni_45, ni_46, ni_47, ni_48, ni_58, ni_63, ni_64, ni_79, ni_80, ni_81, ni_82, ni_83, ni_85, ni_87, ni_88, ni_92, ni_93, ni_94, ni_95, ni_96, ni_97, ni_99, ni_100, ni_127, ni_128, ni_144, ni_146, ni_147, ni_192, ni_217, ni_224, ni_255, ni_256, ni_512, ni_1024, ni_7168, ni_65535, ni_65536, ni_16500, ni_2147483647, nl_0, nl_1, nl_2, nl_14, nl_64, nl_16, nl_2147483647, nl_2147483648, nl_255, nl_38, nl_32, nl_97, nl_33] at h1 h2 h3 h4 h5 h6 h7)
                first | (exfalso; omega) | rw [if_pos (by omega)] | rw [if_neg (by omega)]
              · refine sm_iload_n d_Ru_isCoding_40 rfl (j := 3) rfl ?_
                refine sm_if_lt (tgt := 54) d_Ru_isCoding_41 (by decide) (fun h8 => ?_) (fun h8 => ?_)
                · refine sm_iconst (v := 0) d_Ru_isCoding_54 (by decide) ?_
                  refine sm_ireturn d_Ru_isCoding_55 rfl (by decide) ?_
                  refine ⟨rfl, ?_⟩
                  (try simp only [lg_cmp_ge, lg_cmp_le, lg_cmp_gt, lg_cmp_lt, lg_cmp_eq, sm_b0, Classical.not_not] at h1 h2 h3 h4 h5 h6 h7 h8)
                  (try simp only [sm_lt, sm_le, sm_ltL, sm_leL, sm_eqI, sm_eqL, ni_m1, ni_0, ni_1, ni_2, ni_3, ni_4, ni_5, ni_6, ni_7, ni_8, ni_9, ni_10, ni_12, ni_13, ni_14, ni_15, ni_16, ni_17, ni_18, ni_20, ni_22, ni_24, ni_26, ni_28, ni_30, ni_31, ni_32, ni_33, ni_34, ni_36, ni_37, ni_38, ni_40, ni_45, ni_46, ni_47, ni_48, ni_58, ni_63, ni_64, ni_79, ni_80, ni_81, ni_82, ni_83, ni_85, ni_87, ni_88, ni_92, ni_93, ni_94, ni_95, ni_96, ni_97, ni_99, ni_100, ni_127, ni_128, ni_144, ni_146, ni_147, ni_192, ni_217, ni_224, ni_255, ni_256, ni_512, ni_1024, ni_7168, ni_65535, ni_65536, ni_16500, ni_2147483647, nl_0, nl_1, nl_2, nl_14, nl_64, nl_16, nl_2147483647, nl_2147483648, nl_255, nl_38, nl_32, nl_97, nl_33] at h1 h2 h3 h4 h5 h6 h7 h8)
                  first | (exfalso; omega) | rw [if_pos (by omega)] | rw [if_neg (by omega)]
                · refine sm_iload_n d_Ru_isCoding_44 rfl (j := 3) rfl ?_
                  refine sm_bipush (v := 64) d_Ru_isCoding_45 (by decide) ?_
                  refine sm_icmp_ge (tgt := 54) d_Ru_isCoding_47 (by decide) (fun h9 => ?_) (fun h9 => ?_)
                  · refine sm_iconst (v := 0) d_Ru_isCoding_54 (by decide) ?_
                    refine sm_ireturn d_Ru_isCoding_55 rfl (by decide) ?_
                    refine ⟨rfl, ?_⟩
                    (try simp only [lg_cmp_ge, lg_cmp_le, lg_cmp_gt, lg_cmp_lt, lg_cmp_eq, sm_b0, Classical.not_not] at h1 h2 h3 h4 h5 h6 h7 h8 h9)
                    (try simp only [sm_lt, sm_le, sm_ltL, sm_leL, sm_eqI, sm_eqL, ni_m1, ni_0, ni_1, ni_2, ni_3, ni_4, ni_5, ni_6, ni_7, ni_8, ni_9, ni_10, ni_12, ni_13, ni_14, ni_15, ni_16, ni_17, ni_18, ni_20, ni_22, ni_24, ni_26, ni_28, ni_30, ni_31, ni_32, ni_33, ni_34, ni_36, ni_37, ni_38, ni_40, ni_45, ni_46, ni_47, ni_48, ni_58, ni_63, ni_64, ni_79, ni_80, ni_81, ni_82, ni_83, ni_85, ni_87, ni_88, ni_92, ni_93, ni_94, ni_95, ni_96, ni_97, ni_99, ni_100, ni_127, ni_128, ni_144, ni_146, ni_147, ni_192, ni_217, ni_224, ni_255, ni_256, ni_512, ni_1024, ni_7168, ni_65535, ni_65536, ni_16500, ni_2147483647, nl_0, nl_1, nl_2, nl_14, nl_64, nl_16, nl_2147483647, nl_2147483648, nl_255, nl_38, nl_32, nl_97, nl_33] at h1 h2 h3 h4 h5 h6 h7 h8 h9)
                    first | (exfalso; omega) | rw [if_pos (by omega)] | rw [if_neg (by omega)]
                  · refine sm_iconst (v := 1) d_Ru_isCoding_50 (by decide) ?_
                    refine sm_goto (tgt := 55) d_Ru_isCoding_51 (by decide) ?_
                    refine sm_ireturn d_Ru_isCoding_55 rfl (by decide) ?_
                    refine ⟨rfl, ?_⟩
                    (try simp only [lg_cmp_ge, lg_cmp_le, lg_cmp_gt, lg_cmp_lt, lg_cmp_eq, sm_b0, Classical.not_not] at h1 h2 h3 h4 h5 h6 h7 h8 h9)
                    (try simp only [sm_lt, sm_le, sm_ltL, sm_leL, sm_eqI, sm_eqL, ni_m1, ni_0, ni_1, ni_2, ni_3, ni_4, ni_5, ni_6, ni_7, ni_8, ni_9, ni_10, ni_12, ni_13, ni_14, ni_15, ni_16, ni_17, ni_18, ni_20, ni_22, ni_24, ni_26, ni_28, ni_30, ni_31, ni_32, ni_33, ni_34, ni_36, ni_37, ni_38, ni_40, ni_45, ni_46, ni_47, ni_48, ni_58, ni_63, ni_64, ni_79, ni_80, ni_81, ni_82, ni_83, ni_85, ni_87, ni_88, ni_92, ni_93, ni_94, ni_95, ni_96, ni_97, ni_99, ni_100, ni_127, ni_128, ni_144, ni_146, ni_147, ni_192, ni_217, ni_224, ni_255, ni_256, ni_512, ni_1024, ni_7168, ni_65535, ni_65536, ni_16500, ni_2147483647, nl_0, nl_1, nl_2, nl_14, nl_64, nl_16, nl_2147483647, nl_2147483648, nl_255, nl_38, nl_32, nl_97, nl_33] at h1 h2 h3 h4 h5 h6 h7 h8 h9)
                    first | (exfalso; omega) | rw [if_pos (by omega)] | rw [if_neg (by omega)]

set_option maxHeartbeats 4000000 in
set_option maxRecDepth 100000 in
theorem c_Ru_isPrecinct (r : Int32) (pw : Int32) (ph : Int32) : sm_C G mf_Ru_isPrecinct [.int r, .int pw, .int ph] M 0 0 (sm_pu M (.int (if 0 ≤ r.toInt ∧ r.toInt ≤ 32 ∧ (if r.toInt = 0 then 0 else 1) ≤ pw.toInt ∧ pw.toInt ≤ 15 ∧ (if r.toInt = 0 then 0 else 1) ≤ ph.toInt ∧ ph.toInt ≤ 15 then 1 else 0))) := by
  refine sm_ofW rfl (Nat.le_of_ble_eq_true rfl) ?_
  refine sm_iload_n d_Ru_isPrecinct_0 rfl (j := 0) rfl ?_
  refine sm_if_ne (tgt := 8) d_Ru_isPrecinct_1 (by decide) (fun h1 => ?_) (fun h1 => ?_)
  · refine sm_iconst (v := 1) d_Ru_isPrecinct_8 (by decide) ?_
    refine sm_istore_n d_Ru_isPrecinct_9 rfl (by decide) rfl ?_
    refine sm_iload_n d_Ru_isPrecinct_10 rfl (j := 1) rfl ?_
    refine sm_if_lt (tgt := 46) d_Ru_isPrecinct_11 (by decide) (fun h2 => ?_) (fun h2 => ?_)
    · refine sm_iconst (v := 0) d_Ru_isPrecinct_46 (by decide) ?_
      refine sm_ireturn d_Ru_isPrecinct_47 rfl (by decide) ?_
      refine ⟨rfl, ?_⟩
      (try simp only [lg_cmp_ge, lg_cmp_le, lg_cmp_gt, lg_cmp_lt, lg_cmp_eq, sm_b0, Classical.not_not] at h1 h2)
      (try simp only [sm_lt, sm_le, sm_ltL, sm_leL, sm_eqI, sm_eqL, ni_m1, ni_0, ni_1, ni_2, ni_3, ni_4, ni_5, ni_6, ni_7, ni_8, ni_9, ni_10, ni_12, ni_13, ni_14, ni_15, ni_16, ni_17, ni_18, ni_20, ni_22, ni_24, ni_26, ni_28, ni_30, ni_31, ni_32, ni_33, ni_34, ni_36, ni_37, ni_38, ni_40, ni_45, ni_46, ni_47, ni_48, ni_58, ni_63, ni_64, ni_79, ni_80, ni_81, ni_82, ni_83, ni_85, ni_87, ni_88, ni_92, ni_93, ni_94, ni_95, ni_96, ni_97, ni_99, ni_100, ni_127, ni_128, ni_144, ni_146, ni_147, ni_192, ni_217, ni_224, ni_255, ni_256, ni_512, ni_1024, ni_7168, ni_65535, ni_65536, ni_16500, ni_2147483647, nl_0, nl_1, nl_2, nl_14, nl_64, nl_16, nl_2147483647, nl_2147483648, nl_255, nl_38, nl_32, nl_97, nl_33] at h1 h2)
      first | (exfalso; omega) | rw [if_pos (by omega)] | rw [if_neg (by omega)]
    · refine sm_iload_n d_Ru_isPrecinct_14 rfl (j := 1) rfl ?_
      refine sm_bipush (v := 32) d_Ru_isPrecinct_15 (by decide) ?_
      refine sm_icmp_gt (tgt := 46) d_Ru_isPrecinct_17 (by decide) (fun h3 => ?_) (fun h3 => ?_)
      · refine sm_iconst (v := 0) d_Ru_isPrecinct_46 (by decide) ?_
        refine sm_ireturn d_Ru_isPrecinct_47 rfl (by decide) ?_
        refine ⟨rfl, ?_⟩
        (try simp only [lg_cmp_ge, lg_cmp_le, lg_cmp_gt, lg_cmp_lt, lg_cmp_eq, sm_b0, Classical.not_not] at h1 h2 h3)
        (try simp only [sm_lt, sm_le, sm_ltL, sm_leL, sm_eqI, sm_eqL, ni_m1, ni_0, ni_1, ni_2, ni_3, ni_4, ni_5, ni_6, ni_7, ni_8, ni_9, ni_10, ni_12, ni_13, ni_14, ni_15, ni_16, ni_17, ni_18, ni_20, ni_22, ni_24, ni_26, ni_28, ni_30, ni_31, ni_32, ni_33, ni_34, ni_36, ni_37, ni_38, ni_40, ni_45, ni_46, ni_47, ni_48, ni_58, ni_63, ni_64, ni_79, ni_80, ni_81, ni_82, ni_83, ni_85, ni_87, ni_88, ni_92, ni_93, ni_94, ni_95, ni_96, ni_97, ni_99, ni_100, ni_127, ni_128, ni_144, ni_146, ni_147, ni_192, ni_217, ni_224, ni_255, ni_256, ni_512, ni_1024, ni_7168, ni_65535, ni_65536, ni_16500, ni_2147483647, nl_0, nl_1, nl_2, nl_14, nl_64, nl_16, nl_2147483647, nl_2147483648, nl_255, nl_38, nl_32, nl_97, nl_33] at h1 h2 h3)
        first | (exfalso; omega) | rw [if_pos (by omega)] | rw [if_neg (by omega)]
      · refine sm_iload_n d_Ru_isPrecinct_20 rfl (j := 2) rfl ?_
        refine sm_iload_n d_Ru_isPrecinct_21 rfl (j := 0) rfl ?_
        refine sm_icmp_lt (tgt := 46) d_Ru_isPrecinct_22 (by decide) (fun h4 => ?_) (fun h4 => ?_)
        · refine sm_iconst (v := 0) d_Ru_isPrecinct_46 (by decide) ?_
          refine sm_ireturn d_Ru_isPrecinct_47 rfl (by decide) ?_
          refine ⟨rfl, ?_⟩
          (try simp only [lg_cmp_ge, lg_cmp_le, lg_cmp_gt, lg_cmp_lt, lg_cmp_eq, sm_b0, Classical.not_not] at h1 h2 h3 h4)
          (try simp only [sm_lt, sm_le, sm_ltL, sm_leL, sm_eqI, sm_eqL, ni_m1, ni_0, ni_1, ni_2, ni_3, ni_4, ni_5, ni_6, ni_7, ni_8, ni_9, ni_10, ni_12, ni_13, ni_14, ni_15, ni_16, ni_17, ni_18, ni_20, ni_22, ni_24, ni_26, ni_28, ni_30, ni_31, ni_32, ni_33, ni_34, ni_36, ni_37, ni_38, ni_40, ni_45, ni_46, ni_47, ni_48, ni_58, ni_63, ni_64, ni_79, ni_80, ni_81, ni_82, ni_83, ni_85, ni_87, ni_88, ni_92, ni_93, ni_94, ni_95, ni_96, ni_97, ni_99, ni_100, ni_127, ni_128, ni_144, ni_146, ni_147, ni_192, ni_217, ni_224, ni_255, ni_256, ni_512, ni_1024, ni_7168, ni_65535, ni_65536, ni_16500, ni_2147483647, nl_0, nl_1, nl_2, nl_14, nl_64, nl_16, nl_2147483647, nl_2147483648, nl_255, nl_38, nl_32, nl_97, nl_33] at h1 h2 h3 h4)
          first | (exfalso; omega) | rw [if_pos (by omega)] | rw [if_neg (by omega)]
        · refine sm_iload_n d_Ru_isPrecinct_25 rfl (j := 2) rfl ?_
          refine sm_bipush (v := 15) d_Ru_isPrecinct_26 (by decide) ?_
          refine sm_icmp_gt (tgt := 46) d_Ru_isPrecinct_28 (by decide) (fun h5 => ?_) (fun h5 => ?_)
          · refine sm_iconst (v := 0) d_Ru_isPrecinct_46 (by decide) ?_
            refine sm_ireturn d_Ru_isPrecinct_47 rfl (by decide) ?_
            refine ⟨rfl, ?_⟩
            (try simp only [lg_cmp_ge, lg_cmp_le, lg_cmp_gt, lg_cmp_lt, lg_cmp_eq, sm_b0, Classical.not_not] at h1 h2 h3 h4 h5)
            (try simp only [sm_lt, sm_le, sm_ltL, sm_leL, sm_eqI, sm_eqL, ni_m1, ni_0, ni_1, ni_2, ni_3, ni_4, ni_5, ni_6, ni_7, ni_8, ni_9, ni_10, ni_12, ni_13, ni_14, ni_15, ni_16, ni_17, ni_18, ni_20, ni_22, ni_24, ni_26, ni_28, ni_30, ni_31, ni_32, ni_33, ni_34, ni_36, ni_37, ni_38, ni_40, ni_45, ni_46, ni_47, ni_48, ni_58, ni_63, ni_64, ni_79, ni_80, ni_81, ni_82, ni_83, ni_85, ni_87, ni_88, ni_92, ni_93, ni_94, ni_95, ni_96, ni_97, ni_99, ni_100, ni_127, ni_128, ni_144, ni_146, ni_147, ni_192, ni_217, ni_224, ni_255, ni_256, ni_512, ni_1024, ni_7168, ni_65535, ni_65536, ni_16500, ni_2147483647, nl_0, nl_1, nl_2, nl_14, nl_64, nl_16, nl_2147483647, nl_2147483648, nl_255, nl_38, nl_32, nl_97, nl_33] at h1 h2 h3 h4 h5)
            first | (exfalso; omega) | rw [if_pos (by omega)] | rw [if_neg (by omega)]
          · refine sm_iload_n d_Ru_isPrecinct_31 rfl (j := 3) rfl ?_
            refine sm_iload_n d_Ru_isPrecinct_32 rfl (j := 0) rfl ?_
            refine sm_icmp_lt (tgt := 46) d_Ru_isPrecinct_33 (by decide) (fun h6 => ?_) (fun h6 => ?_)
            · refine sm_iconst (v := 0) d_Ru_isPrecinct_46 (by decide) ?_
              refine sm_ireturn d_Ru_isPrecinct_47 rfl (by decide) ?_
              refine ⟨rfl, ?_⟩
              (try simp only [lg_cmp_ge, lg_cmp_le, lg_cmp_gt, lg_cmp_lt, lg_cmp_eq, sm_b0, Classical.not_not] at h1 h2 h3 h4 h5 h6)
              (try simp only [sm_lt, sm_le, sm_ltL, sm_leL, sm_eqI, sm_eqL, ni_m1, ni_0, ni_1, ni_2, ni_3, ni_4, ni_5, ni_6, ni_7, ni_8, ni_9, ni_10, ni_12, ni_13, ni_14, ni_15, ni_16, ni_17, ni_18, ni_20, ni_22, ni_24, ni_26, ni_28, ni_30, ni_31, ni_32, ni_33, ni_34, ni_36, ni_37, ni_38, ni_40, ni_45, ni_46, ni_47, ni_48, ni_58, ni_63, ni_64, ni_79, ni_80, ni_81, ni_82, ni_83, ni_85, ni_87, ni_88, ni_92, ni_93, ni_94, ni_95, ni_96, ni_97, ni_99, ni_100, ni_127, ni_128, ni_144, ni_146, ni_147, ni_192, ni_217, ni_224, ni_255, ni_256, ni_512, ni_1024, ni_7168, ni_65535, ni_65536, ni_16500, ni_2147483647, nl_0, nl_1, nl_2, nl_14, nl_64, nl_16, nl_2147483647, nl_2147483648, nl_255, nl_38, nl_32, nl_97, nl_33] at h1 h2 h3 h4 h5 h6)
              first | (exfalso; omega) | rw [if_pos (by omega)] | rw [if_neg (by omega)]
            · refine sm_iload_n d_Ru_isPrecinct_36 rfl (j := 3) rfl ?_
              refine sm_bipush (v := 15) d_Ru_isPrecinct_37 (by decide) ?_
              refine sm_icmp_gt (tgt := 46) d_Ru_isPrecinct_39 (by decide) (fun h7 => ?_) (fun h7 => ?_)
              · refine sm_iconst (v := 0) d_Ru_isPrecinct_46 (by decide) ?_
                refine sm_ireturn d_Ru_isPrecinct_47 rfl (by decide) ?_
                refine ⟨rfl, ?_⟩
                (try simp only [lg_cmp_ge, lg_cmp_le, lg_cmp_gt, lg_cmp_lt, lg_cmp_eq, sm_b0, Classical.not_not] at h1 h2 h3 h4 h5 h6 h7)
                (try simp only [sm_lt, sm_le, sm_ltL, sm_leL, sm_eqI, sm_eqL, ni_m1, ni_0, ni_1, ni_2, ni_3, ni_4, ni_5, ni_6, ni_7, ni_8, ni_9, ni_10, ni_12, ni_13, ni_14, ni_15, ni_16, ni_17, ni_18, ni_20, ni_22, ni_24, ni_26, ni_28, ni_30, ni_31, ni_32, ni_33, ni_34, ni_36, ni_37, ni_38, ni_40, ni_45, ni_46, ni_47, ni_48, ni_58, ni_63, ni_64, ni_79, ni_80, ni_81, ni_82, ni_83, ni_85, ni_87, ni_88, ni_92, ni_93, ni_94, ni_95, ni_96, ni_97, ni_99, ni_100, ni_127, ni_128, ni_144, ni_146, ni_147, ni_192, ni_217, ni_224, ni_255, ni_256, ni_512, ni_1024, ni_7168, ni_65535, ni_65536, ni_16500, ni_2147483647, nl_0, nl_1, nl_2, nl_14, nl_64, nl_16, nl_2147483647, nl_2147483648, nl_255, nl_38, nl_32, nl_97, nl_33] at h1 h2 h3 h4 h5 h6 h7)
                first | (exfalso; omega) | rw [if_pos (by omega)] | rw [if_neg (by omega)]
              · refine sm_iconst (v := 1) d_Ru_isPrecinct_42 (by decide) ?_
                refine sm_goto (tgt := 47) d_Ru_isPrecinct_43 (by decide) ?_
                refine sm_ireturn d_Ru_isPrecinct_47 rfl (by decide) ?_
                refine ⟨rfl, ?_⟩
                (try simp only [lg_cmp_ge, lg_cmp_le, lg_cmp_gt, lg_cmp_lt, lg_cmp_eq, sm_b0, Classical.not_not] at h1 h2 h3 h4 h5 h6 h7)
                (try simp only [sm_lt, sm_le, sm_ltL, sm_leL, sm_eqI, sm_eqL, ni_m1, ni_0, ni_1, ni_2, ni_3, ni_4, ni_5, ni_6, ni_7, ni_8, ni_9, ni_10, ni_12, ni_13, ni_14, ni_15, ni_16, ni_17, ni_18, ni_20, ni_22, ni_24, ni_26, ni_28, ni_30, ni_31, ni_32, ni_33, ni_34, ni_36, ni_37, ni_38, ni_40, ni_45, ni_46, ni_47, ni_48, ni_58, ni_63, ni_64, ni_79, ni_80, ni_81, ni_82, ni_83, ni_85, ni_87, ni_88, ni_92, ni_93, ni_94, ni_95, ni_96, ni_97, ni_99, ni_100, ni_127, ni_128, ni_144, ni_146, ni_147, ni_192, ni_217, ni_224, ni_255, ni_256, ni_512, ni_1024, ni_7168, ni_65535, ni_65536, ni_16500, ni_2147483647, nl_0, nl_1, nl_2, nl_14, nl_64, nl_16, nl_2147483647, nl_2147483648, nl_255, nl_38, nl_32, nl_97, nl_33] at h1 h2 h3 h4 h5 h6 h7)
                first | (exfalso; omega) | rw [if_pos (by omega)] | rw [if_neg (by omega)]
  · refine sm_iconst (v := 0) d_Ru_isPrecinct_4 (by decide) ?_
    refine sm_goto (tgt := 9) d_Ru_isPrecinct_5 (by decide) ?_
    refine sm_istore_n d_Ru_isPrecinct_9 rfl (by decide) rfl ?_
    refine sm_iload_n d_Ru_isPrecinct_10 rfl (j := 1) rfl ?_
    refine sm_if_lt (tgt := 46) d_Ru_isPrecinct_11 (by decide) (fun h8 => ?_) (fun h8 => ?_)
    · refine sm_iconst (v := 0) d_Ru_isPrecinct_46 (by decide) ?_
      refine sm_ireturn d_Ru_isPrecinct_47 rfl (by decide) ?_
      refine ⟨rfl, ?_⟩
      (try simp only [lg_cmp_ge, lg_cmp_le, lg_cmp_gt, lg_cmp_lt, lg_cmp_eq, sm_b0, Classical.not_not] at h1 h8)
      (try simp only [sm_lt, sm_le, sm_ltL, sm_leL, sm_eqI, sm_eqL, ni_m1, ni_0, ni_1, ni_2, ni_3, ni_4, ni_5, ni_6, ni_7, ni_8, ni_9, ni_10, ni_12, ni_13, ni_14, ni_15, ni_16, ni_17, ni_18, ni_20, ni_22, ni_24, ni_26, ni_28, ni_30, ni_31, ni_32, ni_33, ni_34, ni_36, ni_37, ni_38, ni_40, ni_45, ni_46, ni_47, ni_48, ni_58, ni_63, ni_64, ni_79, ni_80, ni_81, ni_82, ni_83, ni_85, ni_87, ni_88, ni_92, ni_93, ni_94, ni_95, ni_96, ni_97, ni_99, ni_100, ni_127, ni_128, ni_144, ni_146, ni_147, ni_192, ni_217, ni_224, ni_255, ni_256, ni_512, ni_1024, ni_7168, ni_65535, ni_65536, ni_16500, ni_2147483647, nl_0, nl_1, nl_2, nl_14, nl_64, nl_16, nl_2147483647, nl_2147483648, nl_255, nl_38, nl_32, nl_97, nl_33] at h1 h8)
      first | (exfalso; omega) | rw [if_pos (by omega)] | rw [if_neg (by omega)]
    · refine sm_iload_n d_Ru_isPrecinct_14 rfl (j := 1) rfl ?_
      refine sm_bipush (v := 32) d_Ru_isPrecinct_15 (by decide) ?_
      refine sm_icmp_gt (tgt := 46) d_Ru_isPrecinct_17 (by decide) (fun h9 => ?_) (fun h9 => ?_)
      · refine sm_iconst (v := 0) d_Ru_isPrecinct_46 (by decide) ?_
        refine sm_ireturn d_Ru_isPrecinct_47 rfl (by decide) ?_
        refine ⟨rfl, ?_⟩
        (try simp only [lg_cmp_ge, lg_cmp_le, lg_cmp_gt, lg_cmp_lt, lg_cmp_eq, sm_b0, Classical.not_not] at h1 h8 h9)
        (try simp only [sm_lt, sm_le, sm_ltL, sm_leL, sm_eqI, sm_eqL, ni_m1, ni_0, ni_1, ni_2, ni_3, ni_4, ni_5, ni_6, ni_7, ni_8, ni_9, ni_10, ni_12, ni_13, ni_14, ni_15, ni_16, ni_17, ni_18, ni_20, ni_22, ni_24, ni_26, ni_28, ni_30, ni_31, ni_32, ni_33, ni_34, ni_36, ni_37, ni_38, ni_40, ni_45, ni_46, ni_47, ni_48, ni_58, ni_63, ni_64, ni_79, ni_80, ni_81, ni_82, ni_83, ni_85, ni_87, ni_88, ni_92, ni_93, ni_94, ni_95, ni_96, ni_97, ni_99, ni_100, ni_127, ni_128, ni_144, ni_146, ni_147, ni_192, ni_217, ni_224, ni_255, ni_256, ni_512, ni_1024, ni_7168, ni_65535, ni_65536, ni_16500, ni_2147483647, nl_0, nl_1, nl_2, nl_14, nl_64, nl_16, nl_2147483647, nl_2147483648, nl_255, nl_38, nl_32, nl_97, nl_33] at h1 h8 h9)
        first | (exfalso; omega) | rw [if_pos (by omega)] | rw [if_neg (by omega)]
      · refine sm_iload_n d_Ru_isPrecinct_20 rfl (j := 2) rfl ?_
        refine sm_iload_n d_Ru_isPrecinct_21 rfl (j := 0) rfl ?_
        refine sm_icmp_lt (tgt := 46) d_Ru_isPrecinct_22 (by decide) (fun h10 => ?_) (fun h10 => ?_)
        · refine sm_iconst (v := 0) d_Ru_isPrecinct_46 (by decide) ?_
          refine sm_ireturn d_Ru_isPrecinct_47 rfl (by decide) ?_
          refine ⟨rfl, ?_⟩
          (try simp only [lg_cmp_ge, lg_cmp_le, lg_cmp_gt, lg_cmp_lt, lg_cmp_eq, sm_b0, Classical.not_not] at h1 h8 h9 h10)
          (try simp only [sm_lt, sm_le, sm_ltL, sm_leL, sm_eqI, sm_eqL, ni_m1, ni_0, ni_1, ni_2, ni_3, ni_4, ni_5, ni_6, ni_7, ni_8, ni_9, ni_10, ni_12, ni_13, ni_14, ni_15, ni_16, ni_17, ni_18, ni_20, ni_22, ni_24, ni_26, ni_28, ni_30, ni_31, ni_32, ni_33, ni_34, ni_36, ni_37, ni_38, ni_40, ni_45, ni_46, ni_47, ni_48, ni_58, ni_63, ni_64, ni_79, ni_80, ni_81, ni_82, ni_83, ni_85, ni_87, ni_88, ni_92, ni_93, ni_94, ni_95, ni_96, ni_97, ni_99, ni_100, ni_127, ni_128, ni_144, ni_146, ni_147, ni_192, ni_217, ni_224, ni_255, ni_256, ni_512, ni_1024, ni_7168, ni_65535, ni_65536, ni_16500, ni_2147483647, nl_0, nl_1, nl_2, nl_14, nl_64, nl_16, nl_2147483647, nl_2147483648, nl_255, nl_38, nl_32, nl_97, nl_33] at h1 h8 h9 h10)
          first | (exfalso; omega) | rw [if_pos (by omega)] | rw [if_neg (by omega)]
        · refine sm_iload_n d_Ru_isPrecinct_25 rfl (j := 2) rfl ?_
          refine sm_bipush (v := 15) d_Ru_isPrecinct_26 (by decide) ?_
          refine sm_icmp_gt (tgt := 46) d_Ru_isPrecinct_28 (by decide) (fun h11 => ?_) (fun h11 => ?_)
          · refine sm_iconst (v := 0) d_Ru_isPrecinct_46 (by decide) ?_
            refine sm_ireturn d_Ru_isPrecinct_47 rfl (by decide) ?_
            refine ⟨rfl, ?_⟩
            (try simp only [lg_cmp_ge, lg_cmp_le, lg_cmp_gt, lg_cmp_lt, lg_cmp_eq, sm_b0, Classical.not_not] at h1 h8 h9 h10 h11)
            (try simp only [sm_lt, sm_le, sm_ltL, sm_leL, sm_eqI, sm_eqL, ni_m1, ni_0, ni_1, ni_2, ni_3, ni_4, ni_5, ni_6, ni_7, ni_8, ni_9, ni_10, ni_12, ni_13, ni_14, ni_15, ni_16, ni_17, ni_18, ni_20, ni_22, ni_24, ni_26, ni_28, ni_30, ni_31, ni_32, ni_33, ni_34, ni_36, ni_37, ni_38, ni_40, ni_45, ni_46, ni_47, ni_48, ni_58, ni_63, ni_64, ni_79, ni_80, ni_81, ni_82, ni_83, ni_85, ni_87, ni_88, ni_92, ni_93, ni_94, ni_95, ni_96, ni_97, ni_99, ni_100, ni_127, ni_128, ni_144, ni_146, ni_147, ni_192, ni_217, ni_224, ni_255, ni_256, ni_512, ni_1024, ni_7168, ni_65535, ni_65536, ni_16500, ni_2147483647, nl_0, nl_1, nl_2, nl_14, nl_64, nl_16, nl_2147483647, nl_2147483648, nl_255, nl_38, nl_32, nl_97, nl_33] at h1 h8 h9 h10 h11)
            first | (exfalso; omega) | rw [if_pos (by omega)] | rw [if_neg (by omega)]
          · refine sm_iload_n d_Ru_isPrecinct_31 rfl (j := 3) rfl ?_
            refine sm_iload_n d_Ru_isPrecinct_32 rfl (j := 0) rfl ?_
            refine sm_icmp_lt (tgt := 46) d_Ru_isPrecinct_33 (by decide) (fun h12 => ?_) (fun h12 => ?_)
            · refine sm_iconst (v := 0) d_Ru_isPrecinct_46 (by decide) ?_
              refine sm_ireturn d_Ru_isPrecinct_47 rfl (by decide) ?_
              refine ⟨rfl, ?_⟩
              (try simp only [lg_cmp_ge, lg_cmp_le, lg_cmp_gt, lg_cmp_lt, lg_cmp_eq, sm_b0, Classical.not_not] at h1 h8 h9 h10 h11 h12)
              (try simp only [sm_lt, sm_le, sm_ltL, sm_leL, sm_eqI, sm_eqL, ni_m1, ni_0, ni_1, ni_2, ni_3, ni_4, ni_5, ni_6, ni_7, ni_8, ni_9, ni_10, ni_12, ni_13, ni_14, ni_15, ni_16, ni_17, ni_18, ni_20, ni_22, ni_24, ni_26, ni_28, ni_30, ni_31, ni_32, ni_33, ni_34, ni_36, ni_37, ni_38, ni_40, ni_45, ni_46, ni_47, ni_48, ni_58, ni_63, ni_64, ni_79, ni_80, ni_81, ni_82, ni_83, ni_85, ni_87, ni_88, ni_92, ni_93, ni_94, ni_95, ni_96, ni_97, ni_99, ni_100, ni_127, ni_128, ni_144, ni_146, ni_147, ni_192, ni_217, ni_224, ni_255, ni_256, ni_512, ni_1024, ni_7168, ni_65535, ni_65536, ni_16500, ni_2147483647, nl_0, nl_1, nl_2, nl_14, nl_64, nl_16, nl_2147483647, nl_2147483648, nl_255, nl_38, nl_32, nl_97, nl_33] at h1 h8 h9 h10 h11 h12)
              first | (exfalso; omega) | rw [if_pos (by omega)] | rw [if_neg (by omega)]
            · refine sm_iload_n d_Ru_isPrecinct_36 rfl (j := 3) rfl ?_
              refine sm_bipush (v := 15) d_Ru_isPrecinct_37 (by decide) ?_
              refine sm_icmp_gt (tgt := 46) d_Ru_isPrecinct_39 (by decide) (fun h13 => ?_) (fun h13 => ?_)
              · refine sm_iconst (v := 0) d_Ru_isPrecinct_46 (by decide) ?_
                refine sm_ireturn d_Ru_isPrecinct_47 rfl (by decide) ?_
                refine ⟨rfl, ?_⟩
                (try simp only [lg_cmp_ge, lg_cmp_le, lg_cmp_gt, lg_cmp_lt, lg_cmp_eq, sm_b0, Classical.not_not] at h1 h8 h9 h10 h11 h12 h13)
                (try simp only [sm_lt, sm_le, sm_ltL, sm_leL, sm_eqI, sm_eqL, ni_m1, ni_0, ni_1, ni_2, ni_3, ni_4, ni_5, ni_6, ni_7, ni_8, ni_9, ni_10, ni_12, ni_13, ni_14, ni_15, ni_16, ni_17, ni_18, ni_20, ni_22, ni_24, ni_26, ni_28, ni_30, ni_31, ni_32, ni_33, ni_34, ni_36, ni_37, ni_38, ni_40, ni_45, ni_46, ni_47, ni_48, ni_58, ni_63, ni_64, ni_79, ni_80, ni_81, ni_82, ni_83, ni_85, ni_87, ni_88, ni_92, ni_93, ni_94, ni_95, ni_96, ni_97, ni_99, ni_100, ni_127, ni_128, ni_144, ni_146, ni_147, ni_192, ni_217, ni_224, ni_255, ni_256, ni_512, ni_1024, ni_7168, ni_65535, ni_65536, ni_16500, ni_2147483647, nl_0, nl_1, nl_2, nl_14, nl_64, nl_16, nl_2147483647, nl_2147483648, nl_255, nl_38, nl_32, nl_97, nl_33] at h1 h8 h9 h10 h11 h12 h13)
                first | (exfalso; omega) | rw [if_pos (by omega)] | rw [if_neg (by omega)]
              · refine sm_iconst (v := 1) d_Ru_isPrecinct_42 (by decide) ?_
                refine sm_goto (tgt := 47) d_Ru_isPrecinct_43 (by decide) ?_
                refine sm_ireturn d_Ru_isPrecinct_47 rfl (by decide) ?_
                refine ⟨rfl, ?_⟩
                (try simp only [lg_cmp_ge, lg_cmp_le, lg_cmp_gt, lg_cmp_lt, lg_cmp_eq, sm_b0, Classical.not_not] at h1 h8 h9 h10 h11 h12 h13)
                (try simp only [sm_lt, sm_le, sm_ltL, sm_leL, sm_eqI, sm_eqL, ni_m1, ni_0, ni_1, ni_2, ni_3, ni_4, ni_5, ni_6, ni_7, ni_8, ni_9, ni_10, ni_12, ni_13, ni_14, ni_15, ni_16, ni_17, ni_18, ni_20, ni_22, ni_24, ni_26, ni_28, ni_30, ni_31, ni_32, ni_33, ni_34, ni_36, ni_37, ni_38, ni_40, ni_45, ni_46, ni_47, ni_48, ni_58, ni_63, ni_64, ni_79, ni_80, ni_81, ni_82, ni_83, ni_85, ni_87, ni_88, ni_92, ni_93, ni_94, ni_95, ni_96, ni_97, ni_99, ni_100, ni_127, ni_128, ni_144, ni_146, ni_147, ni_192, ni_217, ni_224, ni_255, ni_256, ni_512, ni_1024, ni_7168, ni_65535, ni_65536, ni_16500, ni_2147483647, nl_0, nl_1, nl_2, nl_14, nl_64, nl_16, nl_2147483647, nl_2147483648, nl_255, nl_38, nl_32, nl_97, nl_33] at h1 h8 h9 h10 h11 h12 h13)
                first | (exfalso; omega) | rw [if_pos (by omega)] | rw [if_neg (by omega)]

set_option maxHeartbeats 4000000 in
set_option maxRecDepth 100000 in
theorem c_Ru_isStepping (kd : Int32) (gd : Int32) : sm_C G mf_Ru_isStepping [.int kd, .int gd] M 0 0 (sm_pu M (.int (if 0 ≤ kd.toInt ∧ kd.toInt ≤ 2 ∧ 0 ≤ gd.toInt ∧ gd.toInt ≤ 7 then 1 else 0))) := by
  refine sm_ofW rfl (Nat.le_of_ble_eq_true rfl) ?_
  refine sm_iload_n d_Ru_isStepping_0 rfl (j := 0) rfl ?_
  refine sm_if_lt (tgt := 23) d_Ru_isStepping_1 (by decide) (fun h1 => ?_) (fun h1 => ?_)
  · refine sm_iconst (v := 0) d_Ru_isStepping_23 (by decide) ?_
    refine sm_ireturn d_Ru_isStepping_24 rfl (by decide) ?_
    refine ⟨rfl, ?_⟩
    (try simp only [lg_cmp_ge, lg_cmp_le, lg_cmp_gt, lg_cmp_lt, lg_cmp_eq, sm_b0, Classical.not_not] at h1)
    (try simp only [sm_lt, sm_le, sm_ltL, sm_leL, sm_eqI, sm_eqL, ni_m1, ni_0, ni_1, ni_2, ni_3, ni_4, ni_5, ni_6, ni_7, ni_8, ni_9, ni_10, ni_12, ni_13, ni_14, ni_15, ni_16, ni_17, ni_18, ni_20, ni_22, ni_24, ni_26, ni_28, ni_30, ni_31, ni_32, ni_33, ni_34, ni_36, ni_37, ni_38, ni_40, ni_45, ni_46, ni_47, ni_48, ni_58, ni_63, ni_64, ni_79, ni_80, ni_81, ni_82, ni_83, ni_85, ni_87, ni_88, ni_92, ni_93, ni_94, ni_95, ni_96, ni_97, ni_99, ni_100, ni_127, ni_128, ni_144, ni_146, ni_147, ni_192, ni_217, ni_224, ni_255, ni_256, ni_512, ni_1024, ni_7168, ni_65535, ni_65536, ni_16500, ni_2147483647, nl_0, nl_1, nl_2, nl_14, nl_64, nl_16, nl_2147483647, nl_2147483648, nl_255, nl_38, nl_32, nl_97, nl_33] at h1)
    first | (exfalso; omega) | rw [if_pos (by omega)] | rw [if_neg (by omega)]
  · refine sm_iload_n d_Ru_isStepping_4 rfl (j := 0) rfl ?_
    refine sm_iconst (v := 2) d_Ru_isStepping_5 (by decide) ?_
    refine sm_icmp_gt (tgt := 23) d_Ru_isStepping_6 (by decide) (fun h2 => ?_) (fun h2 => ?_)
    · refine sm_iconst (v := 0) d_Ru_isStepping_23 (by decide) ?_
      refine sm_ireturn d_Ru_isStepping_24 rfl (by decide) ?_
      refine ⟨rfl, ?_⟩
      (try simp only [lg_cmp_ge, lg_cmp_le, lg_cmp_gt, lg_cmp_lt, lg_cmp_eq, sm_b0, Classical.not_not] at h1 h2)
      (try simp only [sm_lt, sm_le, sm_ltL, sm_leL, sm_eqI, sm_eqL, ni_m1, ni_0, ni_1, ni_2, ni_3, ni_4, ni_5, ni_6, ni_7, ni_8, ni_9, ni_10, ni_12, ni_13, ni_14, ni_15, ni_16, ni_17, ni_18, ni_20, ni_22, ni_24, ni_26, ni_28, ni_30, ni_31, ni_32, ni_33, ni_34, ni_36, ni_37, ni_38, ni_40, ni_45, ni_46, ni_47, ni_48, ni_58, ni_63, ni_64, ni_79, ni_80, ni_81, ni_82, ni_83, ni_85, ni_87, ni_88, ni_92, ni_93, ni_94, ni_95, ni_96, ni_97, ni_99, ni_100, ni_127, ni_128, ni_144, ni_146, ni_147, ni_192, ni_217, ni_224, ni_255, ni_256, ni_512, ni_1024, ni_7168, ni_65535, ni_65536, ni_16500, ni_2147483647, nl_0, nl_1, nl_2, nl_14, nl_64, nl_16, nl_2147483647, nl_2147483648, nl_255, nl_38, nl_32, nl_97, nl_33] at h1 h2)
      first | (exfalso; omega) | rw [if_pos (by omega)] | rw [if_neg (by omega)]
    · refine sm_iload_n d_Ru_isStepping_9 rfl (j := 1) rfl ?_
      refine sm_if_lt (tgt := 23) d_Ru_isStepping_10 (by decide) (fun h3 => ?_) (fun h3 => ?_)
      · refine sm_iconst (v := 0) d_Ru_isStepping_23 (by decide) ?_
        refine sm_ireturn d_Ru_isStepping_24 rfl (by decide) ?_
        refine ⟨rfl, ?_⟩
        (try simp only [lg_cmp_ge, lg_cmp_le, lg_cmp_gt, lg_cmp_lt, lg_cmp_eq, sm_b0, Classical.not_not] at h1 h2 h3)
        (try simp only [sm_lt, sm_le, sm_ltL, sm_leL, sm_eqI, sm_eqL, ni_m1, ni_0, ni_1, ni_2, ni_3, ni_4, ni_5, ni_6, ni_7, ni_8, ni_9, ni_10, ni_12, ni_13, ni_14, ni_15, ni_16, ni_17, ni_18, ni_20, ni_22, ni_24, ni_26, ni_28, ni_30, ni_31, ni_32, ni_33, ni_34, ni_36, ni_37, ni_38, ni_40, ni_45, ni_46, ni_47, ni_48, ni_58, ni_63, ni_64, ni_79, ni_80, ni_81, ni_82, ni_83, ni_85, ni_87, ni_88, ni_92, ni_93, ni_94, ni_95, ni_96, ni_97, ni_99, ni_100, ni_127, ni_128, ni_144, ni_146, ni_147, ni_192, ni_217, ni_224, ni_255, ni_256, ni_512, ni_1024, ni_7168, ni_65535, ni_65536, ni_16500, ni_2147483647, nl_0, nl_1, nl_2, nl_14, nl_64, nl_16, nl_2147483647, nl_2147483648, nl_255, nl_38, nl_32, nl_97, nl_33] at h1 h2 h3)
        first | (exfalso; omega) | rw [if_pos (by omega)] | rw [if_neg (by omega)]
      · refine sm_iload_n d_Ru_isStepping_13 rfl (j := 1) rfl ?_
        refine sm_bipush (v := 7) d_Ru_isStepping_14 (by decide) ?_
        refine sm_icmp_gt (tgt := 23) d_Ru_isStepping_16 (by decide) (fun h4 => ?_) (fun h4 => ?_)
        · refine sm_iconst (v := 0) d_Ru_isStepping_23 (by decide) ?_
          refine sm_ireturn d_Ru_isStepping_24 rfl (by decide) ?_
          refine ⟨rfl, ?_⟩
          (try simp only [lg_cmp_ge, lg_cmp_le, lg_cmp_gt, lg_cmp_lt, lg_cmp_eq, sm_b0, Classical.not_not] at h1 h2 h3 h4)
          (try simp only [sm_lt, sm_le, sm_ltL, sm_leL, sm_eqI, sm_eqL, ni_m1, ni_0, ni_1, ni_2, ni_3, ni_4, ni_5, ni_6, ni_7, ni_8, ni_9, ni_10, ni_12, ni_13, ni_14, ni_15, ni_16, ni_17, ni_18, ni_20, ni_22, ni_24, ni_26, ni_28, ni_30, ni_31, ni_32, ni_33, ni_34, ni_36, ni_37, ni_38, ni_40, ni_45, ni_46, ni_47, ni_48, ni_58, ni_63, ni_64, ni_79, ni_80, ni_81, ni_82, ni_83, ni_85, ni_87, ni_88, ni_92, ni_93, ni_94, ni_95, ni_96, ni_97, ni_99, ni_100, ni_127, ni_128, ni_144, ni_146, ni_147, ni_192, ni_217, ni_224, ni_255, ni_256, ni_512, ni_1024, ni_7168, ni_65535, ni_65536, ni_16500, ni_2147483647, nl_0, nl_1, nl_2, nl_14, nl_64, nl_16, nl_2147483647, nl_2147483648, nl_255, nl_38, nl_32, nl_97, nl_33] at h1 h2 h3 h4)
          first | (exfalso; omega) | rw [if_pos (by omega)] | rw [if_neg (by omega)]
        · refine sm_iconst (v := 1) d_Ru_isStepping_19 (by decide) ?_
          refine sm_goto (tgt := 24) d_Ru_isStepping_20 (by decide) ?_
          refine sm_ireturn d_Ru_isStepping_24 rfl (by decide) ?_
          refine ⟨rfl, ?_⟩
          (try simp only [lg_cmp_ge, lg_cmp_le, lg_cmp_gt, lg_cmp_lt, lg_cmp_eq, sm_b0, Classical.not_not] at h1 h2 h3 h4)
          (try simp only [sm_lt, sm_le, sm_ltL, sm_leL, sm_eqI, sm_eqL, ni_m1, ni_0, ni_1, ni_2, ni_3, ni_4, ni_5, ni_6, ni_7, ni_8, ni_9, ni_10, ni_12, ni_13, ni_14, ni_15, ni_16, ni_17, ni_18, ni_20, ni_22, ni_24, ni_26, ni_28, ni_30, ni_31, ni_32, ni_33, ni_34, ni_36, ni_37, ni_38, ni_40, ni_45, ni_46, ni_47, ni_48, ni_58, ni_63, ni_64, ni_79, ni_80, ni_81, ni_82, ni_83, ni_85, ni_87, ni_88, ni_92, ni_93, ni_94, ni_95, ni_96, ni_97, ni_99, ni_100, ni_127, ni_128, ni_144, ni_146, ni_147, ni_192, ni_217, ni_224, ni_255, ni_256, ni_512, ni_1024, ni_7168, ni_65535, ni_65536, ni_16500, ni_2147483647, nl_0, nl_1, nl_2, nl_14, nl_64, nl_16, nl_2147483647, nl_2147483648, nl_255, nl_38, nl_32, nl_97, nl_33] at h1 h2 h3 h4)
          first | (exfalso; omega) | rw [if_pos (by omega)] | rw [if_neg (by omega)]

set_option maxHeartbeats 4000000 in
set_option maxRecDepth 100000 in
theorem c_Ru_isShift (sh : Int32) : sm_C G mf_Ru_isShift [.int sh] M 0 0 (sm_pu M (.int (if 0 ≤ sh.toInt ∧ sh.toInt ≤ 37 then 1 else 0))) := by
  refine sm_ofW rfl (Nat.le_of_ble_eq_true rfl) ?_
  refine sm_iload_n d_Ru_isShift_0 rfl (j := 0) rfl ?_
  refine sm_if_lt (tgt := 14) d_Ru_isShift_1 (by decide) (fun h1 => ?_) (fun h1 => ?_)
  · refine sm_iconst (v := 0) d_Ru_isShift_14 (by decide) ?_
    refine sm_ireturn d_Ru_isShift_15 rfl (by decide) ?_
    refine ⟨rfl, ?_⟩
    (try simp only [lg_cmp_ge, lg_cmp_le, lg_cmp_gt, lg_cmp_lt, lg_cmp_eq, sm_b0, Classical.not_not] at h1)
    (try simp only [sm_lt, sm_le, sm_ltL, sm_leL, sm_eqI, sm_eqL, ni_m1, ni_0, ni_1, ni_2, ni_3, ni_4, ni_5, ni_6, ni_7, ni_8, ni_9, ni_10, ni_12, ni_13, ni_14, ni_15, ni_16, ni_17, ni_18, ni_20, ni_22, ni_24, ni_26, ni_28, ni_30, ni_31, ni_32, ni_33, ni_34, ni_36, ni_37, ni_38, ni_40, ni_45, ni_46, ni_47, ni_48, ni_58, ni_63, ni_64, ni_79, ni_80, ni_81, ni_82, ni_83, ni_85, ni_87, ni_88, ni_92, ni_93, ni_94, ni_95, ni_96, ni_97, ni_99, ni_100, ni_127, ni_128, ni_144, ni_146, ni_147, ni_192, ni_217, ni_224, ni_255, ni_256, ni_512, ni_1024, ni_7168, ni_65535, ni_65536, ni_16500, ni_2147483647, nl_0, nl_1, nl_2, nl_14, nl_64, nl_16, nl_2147483647, nl_2147483648, nl_255, nl_38, nl_32, nl_97, nl_33] at h1)
    first | (exfalso; omega) | rw [if_pos (by omega)] | rw [if_neg (by omega)]
  · refine sm_iload_n d_Ru_isShift_4 rfl (j := 0) rfl ?_
    refine sm_bipush (v := 37) d_Ru_isShift_5 (by decide) ?_
    refine sm_icmp_gt (tgt := 14) d_Ru_isShift_7 (by decide) (fun h2 => ?_) (fun h2 => ?_)
    · refine sm_iconst (v := 0) d_Ru_isShift_14 (by decide) ?_
      refine sm_ireturn d_Ru_isShift_15 rfl (by decide) ?_
      refine ⟨rfl, ?_⟩
      (try simp only [lg_cmp_ge, lg_cmp_le, lg_cmp_gt, lg_cmp_lt, lg_cmp_eq, sm_b0, Classical.not_not] at h1 h2)
      (try simp only [sm_lt, sm_le, sm_ltL, sm_leL, sm_eqI, sm_eqL, ni_m1, ni_0, ni_1, ni_2, ni_3, ni_4, ni_5, ni_6, ni_7, ni_8, ni_9, ni_10, ni_12, ni_13, ni_14, ni_15, ni_16, ni_17, ni_18, ni_20, ni_22, ni_24, ni_26, ni_28, ni_30, ni_31, ni_32, ni_33, ni_34, ni_36, ni_37, ni_38, ni_40, ni_45, ni_46, ni_47, ni_48, ni_58, ni_63, ni_64, ni_79, ni_80, ni_81, ni_82, ni_83, ni_85, ni_87, ni_88, ni_92, ni_93, ni_94, ni_95, ni_96, ni_97, ni_99, ni_100, ni_127, ni_128, ni_144, ni_146, ni_147, ni_192, ni_217, ni_224, ni_255, ni_256, ni_512, ni_1024, ni_7168, ni_65535, ni_65536, ni_16500, ni_2147483647, nl_0, nl_1, nl_2, nl_14, nl_64, nl_16, nl_2147483647, nl_2147483648, nl_255, nl_38, nl_32, nl_97, nl_33] at h1 h2)
      first | (exfalso; omega) | rw [if_pos (by omega)] | rw [if_neg (by omega)]
    · refine sm_iconst (v := 1) d_Ru_isShift_10 (by decide) ?_
      refine sm_goto (tgt := 15) d_Ru_isShift_11 (by decide) ?_
      refine sm_ireturn d_Ru_isShift_15 rfl (by decide) ?_
      refine ⟨rfl, ?_⟩
      (try simp only [lg_cmp_ge, lg_cmp_le, lg_cmp_gt, lg_cmp_lt, lg_cmp_eq, sm_b0, Classical.not_not] at h1 h2)
      (try simp only [sm_lt, sm_le, sm_ltL, sm_leL, sm_eqI, sm_eqL, ni_m1, ni_0, ni_1, ni_2, ni_3, ni_4, ni_5, ni_6, ni_7, ni_8, ni_9, ni_10, ni_12, ni_13, ni_14, ni_15, ni_16, ni_17, ni_18, ni_20, ni_22, ni_24, ni_26, ni_28, ni_30, ni_31, ni_32, ni_33, ni_34, ni_36, ni_37, ni_38, ni_40, ni_45, ni_46, ni_47, ni_48, ni_58, ni_63, ni_64, ni_79, ni_80, ni_81, ni_82, ni_83, ni_85, ni_87, ni_88, ni_92, ni_93, ni_94, ni_95, ni_96, ni_97, ni_99, ni_100, ni_127, ni_128, ni_144, ni_146, ni_147, ni_192, ni_217, ni_224, ni_255, ni_256, ni_512, ni_1024, ni_7168, ni_65535, ni_65536, ni_16500, ni_2147483647, nl_0, nl_1, nl_2, nl_14, nl_64, nl_16, nl_2147483647, nl_2147483648, nl_255, nl_38, nl_32, nl_97, nl_33] at h1 h2)
      first | (exfalso; omega) | rw [if_pos (by omega)] | rw [if_neg (by omega)]

set_option maxHeartbeats 4000000 in
set_option maxRecDepth 100000 in
theorem c_Ru_isChange (v : Int32) (c : Int32) (le : Int32) (ve : Int32) (ce : Int32) (o : Int32) : sm_C G mf_Ru_isChange [.int v, .int c, .int le, .int ve, .int ce, .int o] M 0 0 (sm_pu M (.int (if 0 ≤ v.toInt ∧ v.toInt < ve.toInt ∧ ve.toInt ≤ 33 ∧ 0 ≤ c.toInt ∧ c.toInt < ce.toInt ∧ ce.toInt ≤ 256 ∧ 1 ≤ le.toInt ∧ (0 ≤ o.toInt ∧ o.toInt ≤ 4) then 1 else 0))) := by
  refine sm_ofW rfl (Nat.le_of_ble_eq_true rfl) ?_
  refine sm_iload_n d_Ru_isChange_0 rfl (j := 0) rfl ?_
  refine sm_if_lt (tgt := 50) d_Ru_isChange_1 (by decide) (fun h1 => ?_) (fun h1 => ?_)
  · refine sm_iconst (v := 0) d_Ru_isChange_50 (by decide) ?_
    refine sm_ireturn d_Ru_isChange_51 rfl (by decide) ?_
    refine ⟨rfl, ?_⟩
    (try simp only [lg_cmp_ge, lg_cmp_le, lg_cmp_gt, lg_cmp_lt, lg_cmp_eq, sm_b0, Classical.not_not] at h1)
    (try simp only [sm_lt, sm_le, sm_ltL, sm_leL, sm_eqI, sm_eqL, ni_m1, ni_0, ni_1, ni_2, ni_3, ni_4, ni_5, ni_6, ni_7, ni_8, ni_9, ni_10, ni_12, ni_13, ni_14, ni_15, ni_16, ni_17, ni_18, ni_20, ni_22, ni_24, ni_26, ni_28, ni_30, ni_31, ni_32, ni_33, ni_34, ni_36, ni_37, ni_38, ni_40, ni_45, ni_46, ni_47, ni_48, ni_58, ni_63, ni_64, ni_79, ni_80, ni_81, ni_82, ni_83, ni_85, ni_87, ni_88, ni_92, ni_93, ni_94, ni_95, ni_96, ni_97, ni_99, ni_100, ni_127, ni_128, ni_144, ni_146, ni_147, ni_192, ni_217, ni_224, ni_255, ni_256, ni_512, ni_1024, ni_7168, ni_65535, ni_65536, ni_16500, ni_2147483647, nl_0, nl_1, nl_2, nl_14, nl_64, nl_16, nl_2147483647, nl_2147483648, nl_255, nl_38, nl_32, nl_97, nl_33] at h1)
    first | (exfalso; omega) | rw [if_pos (by omega)] | rw [if_neg (by omega)]
  · refine sm_iload_n d_Ru_isChange_4 rfl (j := 0) rfl ?_
    refine sm_iload_n d_Ru_isChange_5 rfl (j := 3) rfl ?_
    refine sm_icmp_ge (tgt := 50) d_Ru_isChange_6 (by decide) (fun h2 => ?_) (fun h2 => ?_)
    · refine sm_iconst (v := 0) d_Ru_isChange_50 (by decide) ?_
      refine sm_ireturn d_Ru_isChange_51 rfl (by decide) ?_
      refine ⟨rfl, ?_⟩
      (try simp only [lg_cmp_ge, lg_cmp_le, lg_cmp_gt, lg_cmp_lt, lg_cmp_eq, sm_b0, Classical.not_not] at h1 h2)
      (try simp only [sm_lt, sm_le, sm_ltL, sm_leL, sm_eqI, sm_eqL, ni_m1, ni_0, ni_1, ni_2, ni_3, ni_4, ni_5, ni_6, ni_7, ni_8, ni_9, ni_10, ni_12, ni_13, ni_14, ni_15, ni_16, ni_17, ni_18, ni_20, ni_22, ni_24, ni_26, ni_28, ni_30, ni_31, ni_32, ni_33, ni_34, ni_36, ni_37, ni_38, ni_40, ni_45, ni_46, ni_47, ni_48, ni_58, ni_63, ni_64, ni_79, ni_80, ni_81, ni_82, ni_83, ni_85, ni_87, ni_88, ni_92, ni_93, ni_94, ni_95, ni_96, ni_97, ni_99, ni_100, ni_127, ni_128, ni_144, ni_146, ni_147, ni_192, ni_217, ni_224, ni_255, ni_256, ni_512, ni_1024, ni_7168, ni_65535, ni_65536, ni_16500, ni_2147483647, nl_0, nl_1, nl_2, nl_14, nl_64, nl_16, nl_2147483647, nl_2147483648, nl_255, nl_38, nl_32, nl_97, nl_33] at h1 h2)
      first | (exfalso; omega) | rw [if_pos (by omega)] | rw [if_neg (by omega)]
    · refine sm_iload_n d_Ru_isChange_9 rfl (j := 3) rfl ?_
      refine sm_bipush (v := 33) d_Ru_isChange_10 (by decide) ?_
      refine sm_icmp_gt (tgt := 50) d_Ru_isChange_12 (by decide) (fun h3 => ?_) (fun h3 => ?_)
      · refine sm_iconst (v := 0) d_Ru_isChange_50 (by decide) ?_
        refine sm_ireturn d_Ru_isChange_51 rfl (by decide) ?_
        refine ⟨rfl, ?_⟩
        (try simp only [lg_cmp_ge, lg_cmp_le, lg_cmp_gt, lg_cmp_lt, lg_cmp_eq, sm_b0, Classical.not_not] at h1 h2 h3)
        (try simp only [sm_lt, sm_le, sm_ltL, sm_leL, sm_eqI, sm_eqL, ni_m1, ni_0, ni_1, ni_2, ni_3, ni_4, ni_5, ni_6, ni_7, ni_8, ni_9, ni_10, ni_12, ni_13, ni_14, ni_15, ni_16, ni_17, ni_18, ni_20, ni_22, ni_24, ni_26, ni_28, ni_30, ni_31, ni_32, ni_33, ni_34, ni_36, ni_37, ni_38, ni_40, ni_45, ni_46, ni_47, ni_48, ni_58, ni_63, ni_64, ni_79, ni_80, ni_81, ni_82, ni_83, ni_85, ni_87, ni_88, ni_92, ni_93, ni_94, ni_95, ni_96, ni_97, ni_99, ni_100, ni_127, ni_128, ni_144, ni_146, ni_147, ni_192, ni_217, ni_224, ni_255, ni_256, ni_512, ni_1024, ni_7168, ni_65535, ni_65536, ni_16500, ni_2147483647, nl_0, nl_1, nl_2, nl_14, nl_64, nl_16, nl_2147483647, nl_2147483648, nl_255, nl_38, nl_32, nl_97, nl_33] at h1 h2 h3)
        first | (exfalso; omega) | rw [if_pos (by omega)] | rw [if_neg (by omega)]
      · refine sm_iload_n d_Ru_isChange_15 rfl (j := 1) rfl ?_
        refine sm_if_lt (tgt := 50) d_Ru_isChange_16 (by decide) (fun h4 => ?_) (fun h4 => ?_)
        · refine sm_iconst (v := 0) d_Ru_isChange_50 (by decide) ?_
          refine sm_ireturn d_Ru_isChange_51 rfl (by decide) ?_
          refine ⟨rfl, ?_⟩
          (try simp only [lg_cmp_ge, lg_cmp_le, lg_cmp_gt, lg_cmp_lt, lg_cmp_eq, sm_b0, Classical.not_not] at h1 h2 h3 h4)
          (try simp only [sm_lt, sm_le, sm_ltL, sm_leL, sm_eqI, sm_eqL, ni_m1, ni_0, ni_1, ni_2, ni_3, ni_4, ni_5, ni_6, ni_7, ni_8, ni_9, ni_10, ni_12, ni_13, ni_14, ni_15, ni_16, ni_17, ni_18, ni_20, ni_22, ni_24, ni_26, ni_28, ni_30, ni_31, ni_32, ni_33, ni_34, ni_36, ni_37, ni_38, ni_40, ni_45, ni_46, ni_47, ni_48, ni_58, ni_63, ni_64, ni_79, ni_80, ni_81, ni_82, ni_83, ni_85, ni_87, ni_88, ni_92, ni_93, ni_94, ni_95, ni_96, ni_97, ni_99, ni_100, ni_127, ni_128, ni_144, ni_146, ni_147, ni_192, ni_217, ni_224, ni_255, ni_256, ni_512, ni_1024, ni_7168, ni_65535, ni_65536, ni_16500, ni_2147483647, nl_0, nl_1, nl_2, nl_14, nl_64, nl_16, nl_2147483647, nl_2147483648, nl_255, nl_38, nl_32, nl_97, nl_33] at h1 h2 h3 h4)
          first | (exfalso; omega) | rw [if_pos (by omega)] | rw [if_neg (by omega)]
        · refine sm_iload_n d_Ru_isChange_19 rfl (j := 1) rfl ?_
          refine sm_iload d_Ru_isChange_20 (j := 4) rfl ?_
          refine sm_icmp_ge (tgt := 50) d_Ru_isChange_22 (by decide) (fun h5 => ?_) (fun h5 => ?_)
          · refine sm_iconst (v := 0) d_Ru_isChange_50 (by decide) ?_
            refine sm_ireturn d_Ru_isChange_51 rfl (by decide) ?_
            refine ⟨rfl, ?_⟩
            (try simp only [lg_cmp_ge, lg_cmp_le, lg_cmp_gt, lg_cmp_lt, lg_cmp_eq, sm_b0, Classical.not_not] at h1 h2 h3 h4 h5)
            (try simp only [sm_lt, sm_le, sm_ltL, sm_leL, sm_eqI, sm_eqL, ni_m1, ni_0, ni_1, ni_2, ni_3, ni_4, ni_5, ni_6, ni_7, ni_8, ni_9, ni_10, ni_12, ni_13, ni_14, ni_15, ni_16, ni_17, ni_18, ni_20, ni_22, ni_24, ni_26, ni_28, ni_30, ni_31, ni_32, ni_33, ni_34, ni_36, ni_37, ni_38, ni_40, ni_45, ni_46, ni_47, ni_48, ni_58, ni_63, ni_64, ni_79, ni_80, ni_81, ni_82, ni_83, ni_85, ni_87, ni_88, ni_92, ni_93, ni_94, ni_95, ni_96, ni_97, ni_99, ni_100, ni_127, ni_128, ni_144, ni_146, ni_147, ni_192, ni_217, ni_224, ni_255, ni_256, ni_512, ni_1024, ni_7168, ni_65535, ni_65536, ni_16500, ni_2147483647, nl_0, nl_1, nl_2, nl_14, nl_64, nl_16, nl_2147483647, nl_2147483648, nl_255, nl_38, nl_32, nl_97, nl_33] at h1 h2 h3 h4 h5)
            first | (exfalso; omega) | rw [if_pos (by omega)] | rw [if_neg (by omega)]
          · refine sm_iload d_Ru_isChange_25 (j := 4) rfl ?_
            refine sm_sipush (v := 256) d_Ru_isChange_27 (by decide) ?_
            refine sm_icmp_gt (tgt := 50) d_Ru_isChange_30 (by decide) (fun h6 => ?_) (fun h6 => ?_)
            · refine sm_iconst (v := 0) d_Ru_isChange_50 (by decide) ?_
              refine sm_ireturn d_Ru_isChange_51 rfl (by decide) ?_
              refine ⟨rfl, ?_⟩
              (try simp only [lg_cmp_ge, lg_cmp_le, lg_cmp_gt, lg_cmp_lt, lg_cmp_eq, sm_b0, Classical.not_not] at h1 h2 h3 h4 h5 h6)
              (try simp only [sm_lt, sm_le, sm_ltL, sm_leL, sm_eqI, sm_eqL, ni_m1, ni_0, ni_1, ni_2, ni_3, ni_4, ni_5, ni_6, ni_7, ni_8, ni_9, ni_10, ni_12, ni_13, ni_14, ni_15, ni_16, ni_17, ni_18, ni_20, ni_22, ni_24, ni_26, ni_28, ni_30, ni_31, ni_32, ni_33, ni_34, ni_36, ni_37, ni_38, ni_40, ni_45, ni_46, ni_47, ni_48, ni_58, ni_63, ni_64, ni_79, ni_80, ni_81, ni_82, ni_83, ni_85, ni_87, ni_88, ni_92, ni_93, ni_94, ni_95, ni_96, ni_97, ni_99, ni_100, ni_127, ni_128, ni_144, ni_146, ni_147, ni_192, ni_217, ni_224, ni_255, ni_256, ni_512, ni_1024, ni_7168, ni_65535, ni_65536, ni_16500, ni_2147483647, nl_0, nl_1, nl_2, nl_14, nl_64, nl_16, nl_2147483647, nl_2147483648, nl_255, nl_38, nl_32, nl_97, nl_33] at h1 h2 h3 h4 h5 h6)
              first | (exfalso; omega) | rw [if_pos (by omega)] | rw [if_neg (by omega)]
            · refine sm_iload_n d_Ru_isChange_33 rfl (j := 2) rfl ?_
              refine sm_iconst (v := 1) d_Ru_isChange_34 (by decide) ?_
              refine sm_icmp_lt (tgt := 50) d_Ru_isChange_35 (by decide) (fun h7 => ?_) (fun h7 => ?_)
              · refine sm_iconst (v := 0) d_Ru_isChange_50 (by decide) ?_
                refine sm_ireturn d_Ru_isChange_51 rfl (by decide) ?_
                refine ⟨rfl, ?_⟩
                (try simp only [lg_cmp_ge, lg_cmp_le, lg_cmp_gt, lg_cmp_lt, lg_cmp_eq, sm_b0, Classical.not_not] at h1 h2 h3 h4 h5 h6 h7)
                (try simp only [sm_lt, sm_le, sm_ltL, sm_leL, sm_eqI, sm_eqL, ni_m1, ni_0, ni_1, ni_2, ni_3, ni_4, ni_5, ni_6, ni_7, ni_8, ni_9, ni_10, ni_12, ni_13, ni_14, ni_15, ni_16, ni_17, ni_18, ni_20, ni_22, ni_24, ni_26, ni_28, ni_30, ni_31, ni_32, ni_33, ni_34, ni_36, ni_37, ni_38, ni_40, ni_45, ni_46, ni_47, ni_48, ni_58, ni_63, ni_64, ni_79, ni_80, ni_81, ni_82, ni_83, ni_85, ni_87, ni_88, ni_92, ni_93, ni_94, ni_95, ni_96, ni_97, ni_99, ni_100, ni_127, ni_128, ni_144, ni_146, ni_147, ni_192, ni_217, ni_224, ni_255, ni_256, ni_512, ni_1024, ni_7168, ni_65535, ni_65536, ni_16500, ni_2147483647, nl_0, nl_1, nl_2, nl_14, nl_64, nl_16, nl_2147483647, nl_2147483648, nl_255, nl_38, nl_32, nl_97, nl_33] at h1 h2 h3 h4 h5 h6 h7)
                first | (exfalso; omega) | rw [if_pos (by omega)] | rw [if_neg (by omega)]
              · refine sm_iload d_Ru_isChange_38 (j := 5) rfl ?_
                refine sm_callSp d_Ru_isChange_40 cs_Ru_isChange_21 rfl (As := [_]) rfl rfl (Nat.le_of_ble_eq_true rfl) (c_Ru_isOrder _) ?_
                refine sm_if_eq (tgt := 50) d_Ru_isChange_43 (by decide) (fun h8 => ?_) (fun h8 => ?_)
                · refine sm_iconst (v := 0) d_Ru_isChange_50 (by decide) ?_
                  refine sm_ireturn d_Ru_isChange_51 rfl (by decide) ?_
                  refine ⟨rfl, ?_⟩
                  (try simp only [lg_cmp_ge, lg_cmp_le, lg_cmp_gt, lg_cmp_lt, lg_cmp_eq, sm_b0, Classical.not_not] at h1 h2 h3 h4 h5 h6 h7 h8)
                  (try simp only [sm_lt, sm_le, sm_ltL, sm_leL, sm_eqI, sm_eqL, ni_m1, ni_0, ni_1, ni_2, ni_3, ni_4, ni_5, ni_6, ni_7, ni_8, ni_9, ni_10, ni_12, ni_13, ni_14, ni_15, ni_16, ni_17, ni_18, ni_20, ni_22, ni_24, ni_26, ni_28, ni_30, ni_31, ni_32, ni_33, ni_34, ni_36, ni_37, ni_38, ni_40, ni_45, ni_46, ni_47, ni_48, ni_58, ni_63, ni_64, ni_79, ni_80, ni_81, ni_82, ni_83, ni_85, ni_87, ni_88, ni_92, ni_93, ni_94, ni_95, ni_96, ni_97, ni_99, ni_100, ni_127, ni_128, ni_144, ni_146, ni_147, ni_192, ni_217, ni_224, ni_255, ni_256, ni_512, ni_1024, ni_7168, ni_65535, ni_65536, ni_16500, ni_2147483647, nl_0, nl_1, nl_2, nl_14, nl_64, nl_16, nl_2147483647, nl_2147483648, nl_255, nl_38, nl_32, nl_97, nl_33] at h1 h2 h3 h4 h5 h6 h7 h8)
                  first | (exfalso; omega) | rw [if_pos (by omega)] | rw [if_neg (by omega)]
                · refine sm_iconst (v := 1) d_Ru_isChange_46 (by decide) ?_
                  refine sm_goto (tgt := 51) d_Ru_isChange_47 (by decide) ?_
                  refine sm_ireturn d_Ru_isChange_51 rfl (by decide) ?_
                  refine ⟨rfl, ?_⟩
                  (try simp only [lg_cmp_ge, lg_cmp_le, lg_cmp_gt, lg_cmp_lt, lg_cmp_eq, sm_b0, Classical.not_not] at h1 h2 h3 h4 h5 h6 h7 h8)
                  (try simp only [sm_lt, sm_le, sm_ltL, sm_leL, sm_eqI, sm_eqL, ni_m1, ni_0, ni_1, ni_2, ni_3, ni_4, ni_5, ni_6, ni_7, ni_8, ni_9, ni_10, ni_12, ni_13, ni_14, ni_15, ni_16, ni_17, ni_18, ni_20, ni_22, ni_24, ni_26, ni_28, ni_30, ni_31, ni_32, ni_33, ni_34, ni_36, ni_37, ni_38, ni_40, ni_45, ni_46, ni_47, ni_48, ni_58, ni_63, ni_64, ni_79, ni_80, ni_81, ni_82, ni_83, ni_85, ni_87, ni_88, ni_92, ni_93, ni_94, ni_95, ni_96, ni_97, ni_99, ni_100, ni_127, ni_128, ni_144, ni_146, ni_147, ni_192, ni_217, ni_224, ni_255, ni_256, ni_512, ni_1024, ni_7168, ni_65535, ni_65536, ni_16500, ni_2147483647, nl_0, nl_1, nl_2, nl_14, nl_64, nl_16, nl_2147483647, nl_2147483648, nl_255, nl_38, nl_32, nl_97, nl_33] at h1 h2 h3 h4 h5 h6 h7 h8)
                  first | (exfalso; omega) | rw [if_pos (by omega)] | rw [if_neg (by omega)]

end RUL

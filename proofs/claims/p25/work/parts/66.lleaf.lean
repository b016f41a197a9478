/-! MINE: the law's leaves. -/
set_option maxHeartbeats 4000000 in
set_option maxRecDepth 100000 in
theorem kL_altered (l : Launch) (D : va_G) (ca : Nat → ClassId) (cb : Nat) (c : Nat → Int32) (row col : Int32) : CM l yL_altered cL_altered 6 (some .int) (KR 0 0) D ca [(cb, .inl (ca 0, 7, .inl c))] [.ref cb, .int row, .int col] (some (.int (lAlt (c 1) (c 2) row col))) [(cb, .inl (ca 0, 7, .inl c))] := by
  refine CM.of (by decide) (Nat.le_of_ble_eq_true rfl) ?_
  intro p e s m below meth c0 A ls cx hml hr hlk hI hl
  have hl : lv_has ls 6 [(0, .ref cb), (1, .int row), (2, .int col)] := hl
  refine lv_iload_n cx.1 cx.2.1 dL_altered_0 rfl (lv_at hl 1 rfl) ?_
  refine lv_sipush (v := 1000) cx.1 cx.2.1 dL_altered_1 (by decide) ?_
  refine lv_idiv cx.1 cx.2.1 dL_altered_4 (by decide) ?_
  refine lv_istore_n (lv' := [(3, .int (row / 1000)), (0, .ref cb), (1, .int row), (2, .int col)]) cx.1 cx.2.1 dL_altered_5 rfl hl (by decide) rfl (fun ls hl => ?_)
  refine lv_iload_n cx.1 cx.2.1 dL_altered_6 rfl (lv_at hl 2 rfl) ?_
  refine lv_sipush (v := 1000) cx.1 cx.2.1 dL_altered_7 (by decide) ?_
  refine lv_irem cx.1 cx.2.1 dL_altered_10 (by decide) ?_
  refine lv_istore (lv' := [(4, .int (row - row / 1000 * 1000)), (3, .int (row / 1000)), (0, .ref cb), (1, .int row), (2, .int col)]) cx.1 cx.2.1 dL_altered_11 hl (by decide) rfl (fun ls hl => ?_)
  refine lv_iload_n cx.1 cx.2.1 dL_altered_13 rfl (lv_at hl 3 rfl) ?_
  refine lv_if_lt (tgt := 32) cx.1 cx.2.1 dL_altered_14 (by decide) (fun c_1 => ?_) (fun c_1 => ?_)
  · refine lv_iconst (v := (-1)) cx.1 cx.2.1 dL_altered_32 (by decide) ?_
    exact ke_i cx hr hlk hI (Nat.le_of_ble_eq_true rfl) (Nat.le_of_ble_eq_true rfl) dL_altered_33 (congrArg (fun z => some (Value.int z)) (by first | (simp [lAlt, lDig, c_1]; done))) rfl
  · refine lv_aload_n cx.1 cx.2.1 dL_altered_17 rfl (lv_at hl 2 rfl) ?_
    refine lv_iconst (v := 1) cx.1 cx.2.1 dL_altered_18 (by decide) ?_
    refine lr_c1 cx hI (vp_in_nI (n := 1) (by decide) (by decide)) dL_altered_19 ?_
    refine k_top (y := c 1) rfl ?_
    refine lv_iconst (v := 1) cx.1 cx.2.1 dL_altered_20 (by decide) ?_
    refine lv_icmp_ne (tgt := 34) cx.1 cx.2.1 dL_altered_21 (by decide) (fun c_2 => ?_) (fun c_2 => ?_)
    · refine k_join (D := D) (A := A) 57 [(cb, .inl (ca 0, 7, .inl c))] [.int (lDig (row - row / 1000 * 1000))] (fun H locs hI => ?_) (fun hj57 => ?_)
      · refine lv_istore (lv' := [(5, .int (lDig (row - row / 1000 * 1000))), (4, .int (row - row / 1000 * 1000)), (3, .int (row / 1000)), (0, .ref cb), (1, .int row), (2, .int col)]) cx.1 cx.2.1 dL_altered_57 hl (by decide) rfl (fun ls hl => ?_)
        refine lv_iload_n cx.1 cx.2.1 dL_altered_59 rfl (lv_at hl 5 rfl) ?_
        refine lv_if_ne (tgt := 80) cx.1 cx.2.1 dL_altered_60 (by decide) (fun c_3 => ?_) (fun c_3 => ?_)
        · refine lv_iload_n cx.1 cx.2.1 dL_altered_80 rfl (lv_at hl 5 rfl) ?_
          refine lv_iconst (v := 1) cx.1 cx.2.1 dL_altered_81 (by decide) ?_
          refine lv_icmp_ne (tgt := 119) cx.1 cx.2.1 dL_altered_82 (by decide) (fun c_4 => ?_) (fun c_4 => ?_)
          · refine lv_aload_n cx.1 cx.2.1 dL_altered_119 rfl (lv_at hl 3 rfl) ?_
            refine lv_iconst (v := 1) cx.1 cx.2.1 dL_altered_120 (by decide) ?_
            refine lr_c1 cx hI (vp_in_nI (n := 1) (by decide) (by decide)) dL_altered_121 ?_
            refine k_top (y := c 1) rfl ?_
            refine lv_if_ne (tgt := 130) cx.1 cx.2.1 dL_altered_122 (by decide) (fun c_5 => ?_) (fun c_5 => ?_)
            · refine lv_aload_n cx.1 cx.2.1 dL_altered_130 rfl (lv_at hl 3 rfl) ?_
              refine lv_iconst (v := 1) cx.1 cx.2.1 dL_altered_131 (by decide) ?_
              refine lr_c1 cx hI (vp_in_nI (n := 1) (by decide) (by decide)) dL_altered_132 ?_
              refine k_top (y := c 1) rfl ?_
              refine lv_iconst (v := 1) cx.1 cx.2.1 dL_altered_133 (by decide) ?_
              refine lv_icmp_ne (tgt := 141) cx.1 cx.2.1 dL_altered_134 (by decide) (fun c_6 => ?_) (fun c_6 => ?_)
              · refine lv_iload cx.1 cx.2.1 dL_altered_141 (lv_at hl 0 rfl) ?_
                exact ke_i cx hr hlk hI (Nat.le_of_ble_eq_true rfl) (Nat.le_of_ble_eq_true rfl) dL_altered_143 (congrArg (fun z => some (Value.int z)) (by first | (simp [lAlt, lDig, c_1, c_2, c_3, c_4, c_5, c_6]; done) | exact absurd c_3 c_2 | exact absurd c_2 c_3 | (rw [c_2] at c_3; exact absurd c_3 (by decide)) | exact absurd c_4 c_2 | exact absurd c_2 c_4 | (rw [c_2] at c_4; exact absurd c_4 (by decide)) | exact absurd c_5 c_2 | exact absurd c_2 c_5 | (rw [c_2] at c_5; exact absurd c_5 (by decide)) | exact absurd c_6 c_2 | exact absurd c_2 c_6 | (rw [c_2] at c_6; exact absurd c_6 (by decide)))) rfl
              · refine lv_iconst (v := 0) cx.1 cx.2.1 dL_altered_137 (by decide) ?_
                refine lv_goto (tgt := 143) cx.1 cx.2.1 dL_altered_138 (by decide) ?_
                exact ke_i cx hr hlk hI (Nat.le_of_ble_eq_true rfl) (Nat.le_of_ble_eq_true rfl) dL_altered_143 (congrArg (fun z => some (Value.int z)) (by first | (simp [lAlt, lDig, c_1, c_2, c_3, c_4, c_5, c_6]; done) | exact absurd c_3 c_2 | exact absurd c_2 c_3 | (rw [c_2] at c_3; exact absurd c_3 (by decide)) | exact absurd c_4 c_2 | exact absurd c_2 c_4 | (rw [c_2] at c_4; exact absurd c_4 (by decide)) | exact absurd c_5 c_2 | exact absurd c_2 c_5 | (rw [c_2] at c_5; exact absurd c_5 (by decide)) | exact absurd c_6 c_2 | exact absurd c_2 c_6 | (rw [c_2] at c_6; exact absurd c_6 (by decide)))) rfl
            · refine lv_iload cx.1 cx.2.1 dL_altered_125 (lv_at hl 1 rfl) ?_
              refine lv_goto (tgt := 143) cx.1 cx.2.1 dL_altered_127 (by decide) ?_
              exact ke_i cx hr hlk hI (Nat.le_of_ble_eq_true rfl) (Nat.le_of_ble_eq_true rfl) dL_altered_143 (congrArg (fun z => some (Value.int z)) (by first | (simp [lAlt, lDig, c_1, c_2, c_3, c_4, c_5]; done) | exact absurd c_3 c_2 | exact absurd c_2 c_3 | (rw [c_2] at c_3; exact absurd c_3 (by decide)) | exact absurd c_4 c_2 | exact absurd c_2 c_4 | (rw [c_2] at c_4; exact absurd c_4 (by decide)) | exact absurd c_5 c_2 | exact absurd c_2 c_5 | (rw [c_2] at c_5; exact absurd c_5 (by decide)))) rfl
          · refine lv_aload_n cx.1 cx.2.1 dL_altered_85 rfl (lv_at hl 3 rfl) ?_
            refine lv_iconst (v := 1) cx.1 cx.2.1 dL_altered_86 (by decide) ?_
            refine lr_c1 cx hI (vp_in_nI (n := 1) (by decide) (by decide)) dL_altered_87 ?_
            refine k_top (y := c 1) rfl ?_
            refine lv_if_ne (tgt := 98) cx.1 cx.2.1 dL_altered_88 (by decide) (fun c_7 => ?_) (fun c_7 => ?_)
            · refine lv_aload_n cx.1 cx.2.1 dL_altered_98 rfl (lv_at hl 3 rfl) ?_
              refine lv_iconst (v := 1) cx.1 cx.2.1 dL_altered_99 (by decide) ?_
              refine lr_c1 cx hI (vp_in_nI (n := 1) (by decide) (by decide)) dL_altered_100 ?_
              refine k_top (y := c 1) rfl ?_
              refine lv_iconst (v := 1) cx.1 cx.2.1 dL_altered_101 (by decide) ?_
              refine lv_icmp_ne (tgt := 110) cx.1 cx.2.1 dL_altered_102 (by decide) (fun c_8 => ?_) (fun c_8 => ?_)
              · refine lv_iload cx.1 cx.2.1 dL_altered_110 (lv_at hl 1 rfl) ?_
                refine lv_aload_n cx.1 cx.2.1 dL_altered_112 rfl (lv_at hl 3 rfl) ?_
                refine lv_iconst (v := 2) cx.1 cx.2.1 dL_altered_113 (by decide) ?_
                refine lr_c1 cx hI (vp_in_nI (n := 2) (by decide) (by decide)) dL_altered_114 ?_
                refine k_top (y := c 2) rfl ?_
                refine lv_imul cx.1 cx.2.1 dL_altered_115 ?_
                refine lv_goto (tgt := 143) cx.1 cx.2.1 dL_altered_116 (by decide) ?_
                exact ke_i cx hr hlk hI (Nat.le_of_ble_eq_true rfl) (Nat.le_of_ble_eq_true rfl) dL_altered_143 (congrArg (fun z => some (Value.int z)) (by first | (simp [lAlt, lDig, c_1, c_2, c_3, c_4, c_7, c_8]; done) | exact absurd c_3 c_2 | exact absurd c_2 c_3 | (rw [c_2] at c_3; exact absurd c_3 (by decide)) | exact absurd c_4 c_2 | exact absurd c_2 c_4 | (rw [c_2] at c_4; exact absurd c_4 (by decide)) | exact absurd c_7 c_2 | exact absurd c_2 c_7 | (rw [c_2] at c_7; exact absurd c_7 (by decide)) | exact absurd c_8 c_2 | exact absurd c_2 c_8 | (rw [c_2] at c_8; exact absurd c_8 (by decide)))) rfl
              · refine lv_iload cx.1 cx.2.1 dL_altered_105 (lv_at hl 1 rfl) ?_
                refine lv_goto (tgt := 143) cx.1 cx.2.1 dL_altered_107 (by decide) ?_
                exact ke_i cx hr hlk hI (Nat.le_of_ble_eq_true rfl) (Nat.le_of_ble_eq_true rfl) dL_altered_143 (congrArg (fun z => some (Value.int z)) (by first | (simp [lAlt, lDig, c_1, c_2, c_3, c_4, c_7, c_8]; done) | exact absurd c_3 c_2 | exact absurd c_2 c_3 | (rw [c_2] at c_3; exact absurd c_3 (by decide)) | exact absurd c_4 c_2 | exact absurd c_2 c_4 | (rw [c_2] at c_4; exact absurd c_4 (by decide)) | exact absurd c_7 c_2 | exact absurd c_2 c_7 | (rw [c_2] at c_7; exact absurd c_7 (by decide)) | exact absurd c_8 c_2 | exact absurd c_2 c_8 | (rw [c_2] at c_8; exact absurd c_8 (by decide)))) rfl
            · refine lv_iload_n cx.1 cx.2.1 dL_altered_91 rfl (lv_at hl 2 rfl) ?_
              refine lv_bipush (v := 100) cx.1 cx.2.1 dL_altered_92 (by decide) ?_
              refine lv_irem cx.1 cx.2.1 dL_altered_94 (by decide) ?_
              refine lv_goto (tgt := 143) cx.1 cx.2.1 dL_altered_95 (by decide) ?_
              exact ke_i cx hr hlk hI (Nat.le_of_ble_eq_true rfl) (Nat.le_of_ble_eq_true rfl) dL_altered_143 (congrArg (fun z => some (Value.int z)) (by first | (simp [lAlt, lDig, c_1, c_2, c_3, c_4, c_7]; done) | exact absurd c_3 c_2 | exact absurd c_2 c_3 | (rw [c_2] at c_3; exact absurd c_3 (by decide)) | exact absurd c_4 c_2 | exact absurd c_2 c_4 | (rw [c_2] at c_4; exact absurd c_4 (by decide)) | exact absurd c_7 c_2 | exact absurd c_2 c_7 | (rw [c_2] at c_7; exact absurd c_7 (by decide)))) rfl
        · refine lv_aload_n cx.1 cx.2.1 dL_altered_63 rfl (lv_at hl 3 rfl) ?_
          refine lv_iconst (v := 1) cx.1 cx.2.1 dL_altered_64 (by decide) ?_
          refine lr_c1 cx hI (vp_in_nI (n := 1) (by decide) (by decide)) dL_altered_65 ?_
          refine k_top (y := c 1) rfl ?_
          refine lv_if_ne (tgt := 76) cx.1 cx.2.1 dL_altered_66 (by decide) (fun c_9 => ?_) (fun c_9 => ?_)
          · refine lv_iload_n cx.1 cx.2.1 dL_altered_76 rfl (lv_at hl 2 rfl) ?_
            refine lv_goto (tgt := 143) cx.1 cx.2.1 dL_altered_77 (by decide) ?_
            exact ke_i cx hr hlk hI (Nat.le_of_ble_eq_true rfl) (Nat.le_of_ble_eq_true rfl) dL_altered_143 (congrArg (fun z => some (Value.int z)) (by first | (simp [lAlt, lDig, c_1, c_2, c_3, c_9]; done) | exact absurd c_3 c_2 | exact absurd c_2 c_3 | (rw [c_2] at c_3; exact absurd c_3 (by decide)) | exact absurd c_9 c_2 | exact absurd c_2 c_9 | (rw [c_2] at c_9; exact absurd c_9 (by decide)))) rfl
          · refine lv_iload_n cx.1 cx.2.1 dL_altered_69 rfl (lv_at hl 2 rfl) ?_
            refine lv_bipush (v := 100) cx.1 cx.2.1 dL_altered_70 (by decide) ?_
            refine lv_idiv cx.1 cx.2.1 dL_altered_72 (by decide) ?_
            refine lv_goto (tgt := 143) cx.1 cx.2.1 dL_altered_73 (by decide) ?_
            exact ke_i cx hr hlk hI (Nat.le_of_ble_eq_true rfl) (Nat.le_of_ble_eq_true rfl) dL_altered_143 (congrArg (fun z => some (Value.int z)) (by first | (simp [lAlt, lDig, c_1, c_2, c_3, c_9]; done) | exact absurd c_3 c_2 | exact absurd c_2 c_3 | (rw [c_2] at c_3; exact absurd c_3 (by decide)) | exact absurd c_9 c_2 | exact absurd c_2 c_9 | (rw [c_2] at c_9; exact absurd c_9 (by decide)))) rfl
      ·
        refine lv_iload cx.1 cx.2.1 dL_altered_34 (lv_at hl 0 rfl) ?_
        refine lv_bipush (v := 99) cx.1 cx.2.1 dL_altered_36 (by decide) ?_
        refine lv_icmp_le (tgt := 45) cx.1 cx.2.1 dL_altered_38 (by decide) (fun c_10 => ?_) (fun c_10 => ?_)
        · refine lv_iload cx.1 cx.2.1 dL_altered_45 (lv_at hl 0 rfl) ?_
          refine lv_bipush (v := 9) cx.1 cx.2.1 dL_altered_47 (by decide) ?_
          refine lv_icmp_le (tgt := 56) cx.1 cx.2.1 dL_altered_49 (by decide) (fun c_11 => ?_) (fun c_11 => ?_)
          · refine lv_iconst (v := 1) cx.1 cx.2.1 dL_altered_56 (by decide) ?_
            exact k_top (by simp [lAlt, lDig, c_1, c_2, c_10, c_11]) (hj57 _ _ hI)
          · refine lv_iconst (v := 2) cx.1 cx.2.1 dL_altered_52 (by decide) ?_
            refine lv_goto (tgt := 57) cx.1 cx.2.1 dL_altered_53 (by decide) ?_
            exact k_top (by simp [lAlt, lDig, c_1, c_2, c_10, c_11]) (hj57 _ _ hI)
        · refine lv_iconst (v := 3) cx.1 cx.2.1 dL_altered_41 (by decide) ?_
          refine lv_goto (tgt := 57) cx.1 cx.2.1 dL_altered_42 (by decide) ?_
          exact k_top (by simp [lAlt, lDig, c_1, c_2, c_10]) (hj57 _ _ hI)
    · refine lv_iload cx.1 cx.2.1 dL_altered_24 (lv_at hl 0 rfl) ?_
      refine lv_aload_n cx.1 cx.2.1 dL_altered_26 rfl (lv_at hl 2 rfl) ?_
      refine lv_iconst (v := 2) cx.1 cx.2.1 dL_altered_27 (by decide) ?_
      refine lr_c1 cx hI (vp_in_nI (n := 2) (by decide) (by decide)) dL_altered_28 ?_
      refine k_top (y := c 2) rfl ?_
      refine lv_icmp_le (tgt := 34) cx.1 cx.2.1 dL_altered_29 (by decide) (fun c_12 => ?_) (fun c_12 => ?_)
      · refine k_join (D := D) (A := A) 57 [(cb, .inl (ca 0, 7, .inl c))] [.int (lDig (row - row / 1000 * 1000))] (fun H locs hI => ?_) (fun hj57 => ?_)
        · refine lv_istore (lv' := [(5, .int (lDig (row - row / 1000 * 1000))), (4, .int (row - row / 1000 * 1000)), (3, .int (row / 1000)), (0, .ref cb), (1, .int row), (2, .int col)]) cx.1 cx.2.1 dL_altered_57 hl (by decide) rfl (fun ls hl => ?_)
          refine lv_iload_n cx.1 cx.2.1 dL_altered_59 rfl (lv_at hl 5 rfl) ?_
          refine lv_if_ne (tgt := 80) cx.1 cx.2.1 dL_altered_60 (by decide) (fun c_13 => ?_) (fun c_13 => ?_)
          · refine lv_iload_n cx.1 cx.2.1 dL_altered_80 rfl (lv_at hl 5 rfl) ?_
            refine lv_iconst (v := 1) cx.1 cx.2.1 dL_altered_81 (by decide) ?_
            refine lv_icmp_ne (tgt := 119) cx.1 cx.2.1 dL_altered_82 (by decide) (fun c_14 => ?_) (fun c_14 => ?_)
            · refine lv_aload_n cx.1 cx.2.1 dL_altered_119 rfl (lv_at hl 3 rfl) ?_
              refine lv_iconst (v := 1) cx.1 cx.2.1 dL_altered_120 (by decide) ?_
              refine lr_c1 cx hI (vp_in_nI (n := 1) (by decide) (by decide)) dL_altered_121 ?_
              refine k_top (y := c 1) rfl ?_
              refine lv_if_ne (tgt := 130) cx.1 cx.2.1 dL_altered_122 (by decide) (fun c_15 => ?_) (fun c_15 => ?_)
              · refine lv_aload_n cx.1 cx.2.1 dL_altered_130 rfl (lv_at hl 3 rfl) ?_
                refine lv_iconst (v := 1) cx.1 cx.2.1 dL_altered_131 (by decide) ?_
                refine lr_c1 cx hI (vp_in_nI (n := 1) (by decide) (by decide)) dL_altered_132 ?_
                refine k_top (y := c 1) rfl ?_
                refine lv_iconst (v := 1) cx.1 cx.2.1 dL_altered_133 (by decide) ?_
                refine lv_icmp_ne (tgt := 141) cx.1 cx.2.1 dL_altered_134 (by decide) (fun c_16 => ?_) (fun c_16 => ?_)
                · refine lv_iload cx.1 cx.2.1 dL_altered_141 (lv_at hl 0 rfl) ?_
                  exact ke_i cx hr hlk hI (Nat.le_of_ble_eq_true rfl) (Nat.le_of_ble_eq_true rfl) dL_altered_143 (congrArg (fun z => some (Value.int z)) (by first | (simp [lAlt, lDig, c_1, c_2, c_12, c_13, c_14, c_15, c_16]; done) | exact absurd c_12 c_2 | exact absurd c_2 c_12 | (rw [c_2] at c_12; exact absurd c_12 (by decide)) | exact absurd c_13 c_2 | exact absurd c_2 c_13 | (rw [c_2] at c_13; exact absurd c_13 (by decide)) | exact absurd c_14 c_2 | exact absurd c_2 c_14 | (rw [c_2] at c_14; exact absurd c_14 (by decide)) | exact absurd c_15 c_2 | exact absurd c_2 c_15 | (rw [c_2] at c_15; exact absurd c_15 (by decide)) | exact absurd c_16 c_2 | exact absurd c_2 c_16 | (rw [c_2] at c_16; exact absurd c_16 (by decide)))) rfl
                · refine lv_iconst (v := 0) cx.1 cx.2.1 dL_altered_137 (by decide) ?_
                  refine lv_goto (tgt := 143) cx.1 cx.2.1 dL_altered_138 (by decide) ?_
                  exact ke_i cx hr hlk hI (Nat.le_of_ble_eq_true rfl) (Nat.le_of_ble_eq_true rfl) dL_altered_143 (congrArg (fun z => some (Value.int z)) (by first | (simp [lAlt, lDig, c_1, c_2, c_12, c_13, c_14, c_15, c_16]; done) | exact absurd c_12 c_2 | exact absurd c_2 c_12 | (rw [c_2] at c_12; exact absurd c_12 (by decide)) | exact absurd c_13 c_2 | exact absurd c_2 c_13 | (rw [c_2] at c_13; exact absurd c_13 (by decide)) | exact absurd c_14 c_2 | exact absurd c_2 c_14 | (rw [c_2] at c_14; exact absurd c_14 (by decide)) | exact absurd c_15 c_2 | exact absurd c_2 c_15 | (rw [c_2] at c_15; exact absurd c_15 (by decide)) | exact absurd c_16 c_2 | exact absurd c_2 c_16 | (rw [c_2] at c_16; exact absurd c_16 (by decide)))) rfl
              · refine lv_iload cx.1 cx.2.1 dL_altered_125 (lv_at hl 1 rfl) ?_
                refine lv_goto (tgt := 143) cx.1 cx.2.1 dL_altered_127 (by decide) ?_
                exact ke_i cx hr hlk hI (Nat.le_of_ble_eq_true rfl) (Nat.le_of_ble_eq_true rfl) dL_altered_143 (congrArg (fun z => some (Value.int z)) (by first | (simp [lAlt, lDig, c_1, c_2, c_12, c_13, c_14, c_15]; done) | exact absurd c_12 c_2 | exact absurd c_2 c_12 | (rw [c_2] at c_12; exact absurd c_12 (by decide)) | exact absurd c_13 c_2 | exact absurd c_2 c_13 | (rw [c_2] at c_13; exact absurd c_13 (by decide)) | exact absurd c_14 c_2 | exact absurd c_2 c_14 | (rw [c_2] at c_14; exact absurd c_14 (by decide)) | exact absurd c_15 c_2 | exact absurd c_2 c_15 | (rw [c_2] at c_15; exact absurd c_15 (by decide)))) rfl
            · refine lv_aload_n cx.1 cx.2.1 dL_altered_85 rfl (lv_at hl 3 rfl) ?_
              refine lv_iconst (v := 1) cx.1 cx.2.1 dL_altered_86 (by decide) ?_
              refine lr_c1 cx hI (vp_in_nI (n := 1) (by decide) (by decide)) dL_altered_87 ?_
              refine k_top (y := c 1) rfl ?_
              refine lv_if_ne (tgt := 98) cx.1 cx.2.1 dL_altered_88 (by decide) (fun c_17 => ?_) (fun c_17 => ?_)
              · refine lv_aload_n cx.1 cx.2.1 dL_altered_98 rfl (lv_at hl 3 rfl) ?_
                refine lv_iconst (v := 1) cx.1 cx.2.1 dL_altered_99 (by decide) ?_
                refine lr_c1 cx hI (vp_in_nI (n := 1) (by decide) (by decide)) dL_altered_100 ?_
                refine k_top (y := c 1) rfl ?_
                refine lv_iconst (v := 1) cx.1 cx.2.1 dL_altered_101 (by decide) ?_
                refine lv_icmp_ne (tgt := 110) cx.1 cx.2.1 dL_altered_102 (by decide) (fun c_18 => ?_) (fun c_18 => ?_)
                · refine lv_iload cx.1 cx.2.1 dL_altered_110 (lv_at hl 1 rfl) ?_
                  refine lv_aload_n cx.1 cx.2.1 dL_altered_112 rfl (lv_at hl 3 rfl) ?_
                  refine lv_iconst (v := 2) cx.1 cx.2.1 dL_altered_113 (by decide) ?_
                  refine lr_c1 cx hI (vp_in_nI (n := 2) (by decide) (by decide)) dL_altered_114 ?_
                  refine k_top (y := c 2) rfl ?_
                  refine lv_imul cx.1 cx.2.1 dL_altered_115 ?_
                  refine lv_goto (tgt := 143) cx.1 cx.2.1 dL_altered_116 (by decide) ?_
                  exact ke_i cx hr hlk hI (Nat.le_of_ble_eq_true rfl) (Nat.le_of_ble_eq_true rfl) dL_altered_143 (congrArg (fun z => some (Value.int z)) (by first | (simp [lAlt, lDig, c_1, c_2, c_12, c_13, c_14, c_17, c_18]; done) | exact absurd c_12 c_2 | exact absurd c_2 c_12 | (rw [c_2] at c_12; exact absurd c_12 (by decide)) | exact absurd c_13 c_2 | exact absurd c_2 c_13 | (rw [c_2] at c_13; exact absurd c_13 (by decide)) | exact absurd c_14 c_2 | exact absurd c_2 c_14 | (rw [c_2] at c_14; exact absurd c_14 (by decide)) | exact absurd c_17 c_2 | exact absurd c_2 c_17 | (rw [c_2] at c_17; exact absurd c_17 (by decide)) | exact absurd c_18 c_2 | exact absurd c_2 c_18 | (rw [c_2] at c_18; exact absurd c_18 (by decide)))) rfl
                · refine lv_iload cx.1 cx.2.1 dL_altered_105 (lv_at hl 1 rfl) ?_
                  refine lv_goto (tgt := 143) cx.1 cx.2.1 dL_altered_107 (by decide) ?_
                  exact ke_i cx hr hlk hI (Nat.le_of_ble_eq_true rfl) (Nat.le_of_ble_eq_true rfl) dL_altered_143 (congrArg (fun z => some (Value.int z)) (by first | (simp [lAlt, lDig, c_1, c_2, c_12, c_13, c_14, c_17, c_18]; done) | exact absurd c_12 c_2 | exact absurd c_2 c_12 | (rw [c_2] at c_12; exact absurd c_12 (by decide)) | exact absurd c_13 c_2 | exact absurd c_2 c_13 | (rw [c_2] at c_13; exact absurd c_13 (by decide)) | exact absurd c_14 c_2 | exact absurd c_2 c_14 | (rw [c_2] at c_14; exact absurd c_14 (by decide)) | exact absurd c_17 c_2 | exact absurd c_2 c_17 | (rw [c_2] at c_17; exact absurd c_17 (by decide)) | exact absurd c_18 c_2 | exact absurd c_2 c_18 | (rw [c_2] at c_18; exact absurd c_18 (by decide)))) rfl
              · refine lv_iload_n cx.1 cx.2.1 dL_altered_91 rfl (lv_at hl 2 rfl) ?_
                refine lv_bipush (v := 100) cx.1 cx.2.1 dL_altered_92 (by decide) ?_
                refine lv_irem cx.1 cx.2.1 dL_altered_94 (by decide) ?_
                refine lv_goto (tgt := 143) cx.1 cx.2.1 dL_altered_95 (by decide) ?_
                exact ke_i cx hr hlk hI (Nat.le_of_ble_eq_true rfl) (Nat.le_of_ble_eq_true rfl) dL_altered_143 (congrArg (fun z => some (Value.int z)) (by first | (simp [lAlt, lDig, c_1, c_2, c_12, c_13, c_14, c_17]; done) | exact absurd c_12 c_2 | exact absurd c_2 c_12 | (rw [c_2] at c_12; exact absurd c_12 (by decide)) | exact absurd c_13 c_2 | exact absurd c_2 c_13 | (rw [c_2] at c_13; exact absurd c_13 (by decide)) | exact absurd c_14 c_2 | exact absurd c_2 c_14 | (rw [c_2] at c_14; exact absurd c_14 (by decide)) | exact absurd c_17 c_2 | exact absurd c_2 c_17 | (rw [c_2] at c_17; exact absurd c_17 (by decide)))) rfl
          · refine lv_aload_n cx.1 cx.2.1 dL_altered_63 rfl (lv_at hl 3 rfl) ?_
            refine lv_iconst (v := 1) cx.1 cx.2.1 dL_altered_64 (by decide) ?_
            refine lr_c1 cx hI (vp_in_nI (n := 1) (by decide) (by decide)) dL_altered_65 ?_
            refine k_top (y := c 1) rfl ?_
            refine lv_if_ne (tgt := 76) cx.1 cx.2.1 dL_altered_66 (by decide) (fun c_19 => ?_) (fun c_19 => ?_)
            · refine lv_iload_n cx.1 cx.2.1 dL_altered_76 rfl (lv_at hl 2 rfl) ?_
              refine lv_goto (tgt := 143) cx.1 cx.2.1 dL_altered_77 (by decide) ?_
              exact ke_i cx hr hlk hI (Nat.le_of_ble_eq_true rfl) (Nat.le_of_ble_eq_true rfl) dL_altered_143 (congrArg (fun z => some (Value.int z)) (by first | (simp [lAlt, lDig, c_1, c_2, c_12, c_13, c_19]; done) | exact absurd c_12 c_2 | exact absurd c_2 c_12 | (rw [c_2] at c_12; exact absurd c_12 (by decide)) | exact absurd c_13 c_2 | exact absurd c_2 c_13 | (rw [c_2] at c_13; exact absurd c_13 (by decide)) | exact absurd c_19 c_2 | exact absurd c_2 c_19 | (rw [c_2] at c_19; exact absurd c_19 (by decide)))) rfl
            · refine lv_iload_n cx.1 cx.2.1 dL_altered_69 rfl (lv_at hl 2 rfl) ?_
              refine lv_bipush (v := 100) cx.1 cx.2.1 dL_altered_70 (by decide) ?_
              refine lv_idiv cx.1 cx.2.1 dL_altered_72 (by decide) ?_
              refine lv_goto (tgt := 143) cx.1 cx.2.1 dL_altered_73 (by decide) ?_
              exact ke_i cx hr hlk hI (Nat.le_of_ble_eq_true rfl) (Nat.le_of_ble_eq_true rfl) dL_altered_143 (congrArg (fun z => some (Value.int z)) (by first | (simp [lAlt, lDig, c_1, c_2, c_12, c_13, c_19]; done) | exact absurd c_12 c_2 | exact absurd c_2 c_12 | (rw [c_2] at c_12; exact absurd c_12 (by decide)) | exact absurd c_13 c_2 | exact absurd c_2 c_13 | (rw [c_2] at c_13; exact absurd c_13 (by decide)) | exact absurd c_19 c_2 | exact absurd c_2 c_19 | (rw [c_2] at c_19; exact absurd c_19 (by decide)))) rfl
        ·
          refine lv_iload cx.1 cx.2.1 dL_altered_34 (lv_at hl 0 rfl) ?_
          refine lv_bipush (v := 99) cx.1 cx.2.1 dL_altered_36 (by decide) ?_
          refine lv_icmp_le (tgt := 45) cx.1 cx.2.1 dL_altered_38 (by decide) (fun c_20 => ?_) (fun c_20 => ?_)
          · refine lv_iload cx.1 cx.2.1 dL_altered_45 (lv_at hl 0 rfl) ?_
            refine lv_bipush (v := 9) cx.1 cx.2.1 dL_altered_47 (by decide) ?_
            refine lv_icmp_le (tgt := 56) cx.1 cx.2.1 dL_altered_49 (by decide) (fun c_21 => ?_) (fun c_21 => ?_)
            · refine lv_iconst (v := 1) cx.1 cx.2.1 dL_altered_56 (by decide) ?_
              exact k_top (by simp [lAlt, lDig, c_1, c_2, c_12, c_20, c_21]) (hj57 _ _ hI)
            · refine lv_iconst (v := 2) cx.1 cx.2.1 dL_altered_52 (by decide) ?_
              refine lv_goto (tgt := 57) cx.1 cx.2.1 dL_altered_53 (by decide) ?_
              exact k_top (by simp [lAlt, lDig, c_1, c_2, c_12, c_20, c_21]) (hj57 _ _ hI)
          · refine lv_iconst (v := 3) cx.1 cx.2.1 dL_altered_41 (by decide) ?_
            refine lv_goto (tgt := 57) cx.1 cx.2.1 dL_altered_42 (by decide) ?_
            exact k_top (by simp [lAlt, lDig, c_1, c_2, c_12, c_20]) (hj57 _ _ hI)
      · refine lv_iconst (v := (-1)) cx.1 cx.2.1 dL_altered_32 (by decide) ?_
        exact ke_i cx hr hlk hI (Nat.le_of_ble_eq_true rfl) (Nat.le_of_ble_eq_true rfl) dL_altered_33 (congrArg (fun z => some (Value.int z)) (by first | (simp [lAlt, lDig, c_1, c_2, c_12]; done) | exact absurd c_12 c_2 | exact absurd c_2 c_12 | (rw [c_2] at c_12; exact absurd c_12 (by decide)))) rfl
set_option maxHeartbeats 4000000 in
set_option maxRecDepth 100000 in
theorem kL_isEven (l : Launch) (D : va_G) (ca : Nat → ClassId) (ad : Nat → Nat) (oa cb : Nat) (v : XS) (o : Nat → Int32) (a0 t q a3 a4 a5 a6 : Int32) {j : Nat} (hj : j < 40) (hA : zA v j) (ho : o j = lO v j) (ht : t = xt v) (hq : q = xq v) : CM l yL_isEven cL_isEven 6 (some .boolean) (KR 3 64) D ca (lw ad oa cb ca v o (lK a0 t q a3 a4 a5 a6) []) [.ref (ad 0), .ref oa, .ref cb, .int (nI j)] (some (.int (b2i (!xBeh v (nI j))))) (lw ad oa cb ca v o (lK a0 t q a3 a4 a5 a6) []) := by
  refine CM.of (by decide) (Nat.le_of_ble_eq_true rfl) ?_
  intro p e s m below meth c0 A ls cx hml hr hlk hI hl
  have hl : lv_has ls 6 [(0, .ref (ad 0)), (1, .ref oa), (2, .ref cb), (3, .int (nI j))] := hl
  refine lv_iconst (v := 1) cx.1 cx.2.1 dL_isEven_0 (by decide) ?_
  refine lv_istore (lv' := [(4, .int 1), (0, .ref (ad 0)), (1, .ref oa), (2, .ref cb), (3, .int (nI j))]) cx.1 cx.2.1 dL_isEven_1 hl (by decide) rfl (fun ls hl => ?_)
  refine lv_iconst (v := 0) cx.1 cx.2.1 dL_isEven_3 (by decide) ?_
  refine lv_istore (lv' := [(5, .int 0), (4, .int 1), (0, .ref (ad 0)), (1, .ref oa), (2, .ref cb), (3, .int (nI j))]) cx.1 cx.2.1 dL_isEven_4 hl (by decide) rfl (fun ls hl => ?_)
  refine lv_iload cx.1 cx.2.1 dL_isEven_6 (lv_at hl 0 rfl) ?_
  refine lv_iconst (v := 3) cx.1 cx.2.1 dL_isEven_8 (by decide) ?_
  refine lv_icmp_ge (tgt := 49) cx.1 cx.2.1 dL_isEven_9 (by decide) (fun h9 => absurd h9 (by decide)) (fun _ => ?_)
  refine lv_iload cx.1 cx.2.1 dL_isEven_12 (lv_at hl 1 rfl) ?_
  refine lv_if_eq (tgt := 40) cx.1 cx.2.1 dL_isEven_14 (by decide) (fun h9 => absurd h9 (by decide)) (fun _ => ?_)
  refine lv_aload_n cx.1 cx.2.1 dL_isEven_17 rfl (lv_at hl 2 rfl) ?_
  refine lv_iload_n cx.1 cx.2.1 dL_isEven_18 rfl (lv_at hl 5 rfl) ?_
  refine lv_iload cx.1 cx.2.1 dL_isEven_19 (lv_at hl 0 rfl) ?_
  refine lc_i 2 cx (hl.1.trans hml.symm) (kS_shadow l D ca ad v (nI j) 0 (vp_in_nI hj (by decide)) (vp_in_nI (n := 0) (by decide) (by decide))) hI wk_86 wk_83 wk_84 wk_85 ⟨rfl, by decide +kernel⟩ rfl ⟨rfl, rfl⟩ ⟨Nat.le_of_ble_eq_true rfl, Nat.le_of_ble_eq_true rfl⟩ (Nat.le_of_ble_eq_true rfl) dL_isEven_21 ⟨Nat.le_of_ble_eq_true rfl, Nat.le_of_ble_eq_true rfl⟩ rfl (fun H locs hI => ?_)
  refine k_top (y := xC v 0 j) (congrArg (xC v 0) (kx hj)) ?_
  refine lv_aload_n cx.1 cx.2.1 dL_isEven_24 rfl (lv_at hl 4 rfl) ?_
  refine lv_aload_n cx.1 cx.2.1 dL_isEven_25 rfl (lv_at hl 3 rfl) ?_
  refine lv_iload_n cx.1 cx.2.1 dL_isEven_26 rfl (lv_at hl 5 rfl) ?_
  refine lr_on cx hI hj dL_isEven_27 ?_
  refine lv_iload cx.1 cx.2.1 dL_isEven_28 (lv_at hl 0 rfl) ?_
  refine lc_c 3 cx (hl.1.trans hml.symm) (kL_altered l D ca cb (lK a0 t q a3 a4 a5 a6) (o j) 0) hI wk_167 wk_165 wk_166 wk_0 ⟨by decide, by decide, by decide +kernel⟩ rfl ⟨rfl, rfl⟩ ⟨Nat.le_of_ble_eq_true rfl, Nat.le_of_ble_eq_true rfl⟩ (Nat.le_of_ble_eq_true rfl) dL_isEven_30 ⟨Nat.le_of_ble_eq_true rfl, Nat.le_of_ble_eq_true rfl⟩ rfl (fun H locs hI => ?_)
  refine k_top (y := xBro v (nI j) 0) (by rw [ho, ht, hq]; exact lAlt_bro hj hA 0) ?_
  refine lv_icmp_ne (tgt := 40) cx.1 cx.2.1 dL_isEven_33 (by decide) (fun c_1 => ?_) (fun c_1 => ?_)
  · refine lv_iconst (v := 0) cx.1 cx.2.1 dL_isEven_40 (by decide) ?_
    refine lv_istore (lv' := [(4, .int 0), (5, .int 0), (0, .ref (ad 0)), (1, .ref oa), (2, .ref cb), (3, .int (nI j))]) cx.1 cx.2.1 dL_isEven_41 hl (by decide) rfl (fun ls hl => ?_)
    refine lv_iinc (v := 1) (lv' := [(5, .int 1), (4, .int 0), (0, .ref (ad 0)), (1, .ref oa), (2, .ref cb), (3, .int (nI j))]) cx.1 cx.2.1 dL_isEven_43 hl (k := 1) rfl (by decide) (by decide) rfl (fun ls hl => ?_)
    refine lv_goto (tgt := 6) cx.1 cx.2.1 dL_isEven_46 (by decide) ?_
    refine lv_iload cx.1 cx.2.1 dL_isEven_6 (lv_at hl 0 rfl) ?_
    refine lv_iconst (v := 3) cx.1 cx.2.1 dL_isEven_8 (by decide) ?_
    refine lv_icmp_ge (tgt := 49) cx.1 cx.2.1 dL_isEven_9 (by decide) (fun h9 => absurd h9 (by decide)) (fun _ => ?_)
    refine lv_iload cx.1 cx.2.1 dL_isEven_12 (lv_at hl 1 rfl) ?_
    refine lv_if_eq (tgt := 40) cx.1 cx.2.1 dL_isEven_14 (by decide) (fun _ => ?_) (fun h9 => absurd (by decide) h9)
    refine lv_iconst (v := 0) cx.1 cx.2.1 dL_isEven_40 (by decide) ?_
    refine lv_istore (lv' := [(4, .int 0), (5, .int 1), (0, .ref (ad 0)), (1, .ref oa), (2, .ref cb), (3, .int (nI j))]) cx.1 cx.2.1 dL_isEven_41 hl (by decide) rfl (fun ls hl => ?_)
    refine lv_iinc (v := 2) (lv' := [(5, .int 2), (4, .int 0), (0, .ref (ad 0)), (1, .ref oa), (2, .ref cb), (3, .int (nI j))]) cx.1 cx.2.1 dL_isEven_43 hl (k := 1) rfl (by decide) (by decide) rfl (fun ls hl => ?_)
    refine lv_goto (tgt := 6) cx.1 cx.2.1 dL_isEven_46 (by decide) ?_
    refine lv_iload cx.1 cx.2.1 dL_isEven_6 (lv_at hl 0 rfl) ?_
    refine lv_iconst (v := 3) cx.1 cx.2.1 dL_isEven_8 (by decide) ?_
    refine lv_icmp_ge (tgt := 49) cx.1 cx.2.1 dL_isEven_9 (by decide) (fun h9 => absurd h9 (by decide)) (fun _ => ?_)
    refine lv_iload cx.1 cx.2.1 dL_isEven_12 (lv_at hl 1 rfl) ?_
    refine lv_if_eq (tgt := 40) cx.1 cx.2.1 dL_isEven_14 (by decide) (fun _ => ?_) (fun h9 => absurd (by decide) h9)
    refine lv_iconst (v := 0) cx.1 cx.2.1 dL_isEven_40 (by decide) ?_
    refine lv_istore (lv' := [(4, .int 0), (5, .int 2), (0, .ref (ad 0)), (1, .ref oa), (2, .ref cb), (3, .int (nI j))]) cx.1 cx.2.1 dL_isEven_41 hl (by decide) rfl (fun ls hl => ?_)
    refine lv_iinc (v := 3) (lv' := [(5, .int 3), (4, .int 0), (0, .ref (ad 0)), (1, .ref oa), (2, .ref cb), (3, .int (nI j))]) cx.1 cx.2.1 dL_isEven_43 hl (k := 1) rfl (by decide) (by decide) rfl (fun ls hl => ?_)
    refine lv_goto (tgt := 6) cx.1 cx.2.1 dL_isEven_46 (by decide) ?_
    refine lv_iload cx.1 cx.2.1 dL_isEven_6 (lv_at hl 0 rfl) ?_
    refine lv_iconst (v := 3) cx.1 cx.2.1 dL_isEven_8 (by decide) ?_
    refine lv_icmp_ge (tgt := 49) cx.1 cx.2.1 dL_isEven_9 (by decide) (fun _ => ?_) (fun h9 => absurd (by decide) h9)
    refine lv_iload cx.1 cx.2.1 dL_isEven_49 (lv_at hl 1 rfl) ?_
    exact ke_z cx hr hlk hI (Nat.le_of_ble_eq_true rfl) (Nat.le_of_ble_eq_true rfl) dL_isEven_51 rfl (congrArg (fun z => some (Value.int z)) (even_f0 hj c_1)) rfl
  · refine lv_iconst (v := 1) cx.1 cx.2.1 dL_isEven_36 (by decide) ?_
    refine lv_goto (tgt := 41) cx.1 cx.2.1 dL_isEven_37 (by decide) ?_
    refine lv_istore (lv' := [(4, .int 1), (5, .int 0), (0, .ref (ad 0)), (1, .ref oa), (2, .ref cb), (3, .int (nI j))]) cx.1 cx.2.1 dL_isEven_41 hl (by decide) rfl (fun ls hl => ?_)
    refine lv_iinc (v := 1) (lv' := [(5, .int 1), (4, .int 1), (0, .ref (ad 0)), (1, .ref oa), (2, .ref cb), (3, .int (nI j))]) cx.1 cx.2.1 dL_isEven_43 hl (k := 1) rfl (by decide) (by decide) rfl (fun ls hl => ?_)
    refine lv_goto (tgt := 6) cx.1 cx.2.1 dL_isEven_46 (by decide) ?_
    refine lv_iload cx.1 cx.2.1 dL_isEven_6 (lv_at hl 0 rfl) ?_
    refine lv_iconst (v := 3) cx.1 cx.2.1 dL_isEven_8 (by decide) ?_
    refine lv_icmp_ge (tgt := 49) cx.1 cx.2.1 dL_isEven_9 (by decide) (fun h9 => absurd h9 (by decide)) (fun _ => ?_)
    refine lv_iload cx.1 cx.2.1 dL_isEven_12 (lv_at hl 1 rfl) ?_
    refine lv_if_eq (tgt := 40) cx.1 cx.2.1 dL_isEven_14 (by decide) (fun h9 => absurd h9 (by decide)) (fun _ => ?_)
    refine lv_aload_n cx.1 cx.2.1 dL_isEven_17 rfl (lv_at hl 2 rfl) ?_
    refine lv_iload_n cx.1 cx.2.1 dL_isEven_18 rfl (lv_at hl 5 rfl) ?_
    refine lv_iload cx.1 cx.2.1 dL_isEven_19 (lv_at hl 0 rfl) ?_
    refine lc_i 2 cx (hl.1.trans hml.symm) (kS_shadow l D ca ad v (nI j) 1 (vp_in_nI hj (by decide)) (vp_in_nI (n := 1) (by decide) (by decide))) hI wk_86 wk_83 wk_84 wk_85 ⟨rfl, by decide +kernel⟩ rfl ⟨rfl, rfl⟩ ⟨Nat.le_of_ble_eq_true rfl, Nat.le_of_ble_eq_true rfl⟩ (Nat.le_of_ble_eq_true rfl) dL_isEven_21 ⟨Nat.le_of_ble_eq_true rfl, Nat.le_of_ble_eq_true rfl⟩ rfl (fun H locs hI => ?_)
    refine k_top (y := xC v 1 j) (congrArg (xC v 1) (kx hj)) ?_
    refine lv_aload_n cx.1 cx.2.1 dL_isEven_24 rfl (lv_at hl 4 rfl) ?_
    refine lv_aload_n cx.1 cx.2.1 dL_isEven_25 rfl (lv_at hl 3 rfl) ?_
    refine lv_iload_n cx.1 cx.2.1 dL_isEven_26 rfl (lv_at hl 5 rfl) ?_
    refine lr_on cx hI hj dL_isEven_27 ?_
    refine lv_iload cx.1 cx.2.1 dL_isEven_28 (lv_at hl 0 rfl) ?_
    refine lc_c 3 cx (hl.1.trans hml.symm) (kL_altered l D ca cb (lK a0 t q a3 a4 a5 a6) (o j) 1) hI wk_167 wk_165 wk_166 wk_0 ⟨by decide, by decide, by decide +kernel⟩ rfl ⟨rfl, rfl⟩ ⟨Nat.le_of_ble_eq_true rfl, Nat.le_of_ble_eq_true rfl⟩ (Nat.le_of_ble_eq_true rfl) dL_isEven_30 ⟨Nat.le_of_ble_eq_true rfl, Nat.le_of_ble_eq_true rfl⟩ rfl (fun H locs hI => ?_)
    refine k_top (y := xBro v (nI j) 1) (by rw [ho, ht, hq]; exact lAlt_bro hj hA 1) ?_
    refine lv_icmp_ne (tgt := 40) cx.1 cx.2.1 dL_isEven_33 (by decide) (fun c_2 => ?_) (fun c_2 => ?_)
    · refine lv_iconst (v := 0) cx.1 cx.2.1 dL_isEven_40 (by decide) ?_
      refine lv_istore (lv' := [(4, .int 0), (5, .int 1), (0, .ref (ad 0)), (1, .ref oa), (2, .ref cb), (3, .int (nI j))]) cx.1 cx.2.1 dL_isEven_41 hl (by decide) rfl (fun ls hl => ?_)
      refine lv_iinc (v := 2) (lv' := [(5, .int 2), (4, .int 0), (0, .ref (ad 0)), (1, .ref oa), (2, .ref cb), (3, .int (nI j))]) cx.1 cx.2.1 dL_isEven_43 hl (k := 1) rfl (by decide) (by decide) rfl (fun ls hl => ?_)
      refine lv_goto (tgt := 6) cx.1 cx.2.1 dL_isEven_46 (by decide) ?_
      refine lv_iload cx.1 cx.2.1 dL_isEven_6 (lv_at hl 0 rfl) ?_
      refine lv_iconst (v := 3) cx.1 cx.2.1 dL_isEven_8 (by decide) ?_
      refine lv_icmp_ge (tgt := 49) cx.1 cx.2.1 dL_isEven_9 (by decide) (fun h9 => absurd h9 (by decide)) (fun _ => ?_)
      refine lv_iload cx.1 cx.2.1 dL_isEven_12 (lv_at hl 1 rfl) ?_
      refine lv_if_eq (tgt := 40) cx.1 cx.2.1 dL_isEven_14 (by decide) (fun _ => ?_) (fun h9 => absurd (by decide) h9)
      refine lv_iconst (v := 0) cx.1 cx.2.1 dL_isEven_40 (by decide) ?_
      refine lv_istore (lv' := [(4, .int 0), (5, .int 2), (0, .ref (ad 0)), (1, .ref oa), (2, .ref cb), (3, .int (nI j))]) cx.1 cx.2.1 dL_isEven_41 hl (by decide) rfl (fun ls hl => ?_)
      refine lv_iinc (v := 3) (lv' := [(5, .int 3), (4, .int 0), (0, .ref (ad 0)), (1, .ref oa), (2, .ref cb), (3, .int (nI j))]) cx.1 cx.2.1 dL_isEven_43 hl (k := 1) rfl (by decide) (by decide) rfl (fun ls hl => ?_)
      refine lv_goto (tgt := 6) cx.1 cx.2.1 dL_isEven_46 (by decide) ?_
      refine lv_iload cx.1 cx.2.1 dL_isEven_6 (lv_at hl 0 rfl) ?_
      refine lv_iconst (v := 3) cx.1 cx.2.1 dL_isEven_8 (by decide) ?_
      refine lv_icmp_ge (tgt := 49) cx.1 cx.2.1 dL_isEven_9 (by decide) (fun _ => ?_) (fun h9 => absurd (by decide) h9)
      refine lv_iload cx.1 cx.2.1 dL_isEven_49 (lv_at hl 1 rfl) ?_
      exact ke_z cx hr hlk hI (Nat.le_of_ble_eq_true rfl) (Nat.le_of_ble_eq_true rfl) dL_isEven_51 rfl (congrArg (fun z => some (Value.int z)) (even_f1 hj c_2)) rfl
    · refine lv_iconst (v := 1) cx.1 cx.2.1 dL_isEven_36 (by decide) ?_
      refine lv_goto (tgt := 41) cx.1 cx.2.1 dL_isEven_37 (by decide) ?_
      refine lv_istore (lv' := [(4, .int 1), (5, .int 1), (0, .ref (ad 0)), (1, .ref oa), (2, .ref cb), (3, .int (nI j))]) cx.1 cx.2.1 dL_isEven_41 hl (by decide) rfl (fun ls hl => ?_)
      refine lv_iinc (v := 2) (lv' := [(5, .int 2), (4, .int 1), (0, .ref (ad 0)), (1, .ref oa), (2, .ref cb), (3, .int (nI j))]) cx.1 cx.2.1 dL_isEven_43 hl (k := 1) rfl (by decide) (by decide) rfl (fun ls hl => ?_)
      refine lv_goto (tgt := 6) cx.1 cx.2.1 dL_isEven_46 (by decide) ?_
      refine lv_iload cx.1 cx.2.1 dL_isEven_6 (lv_at hl 0 rfl) ?_
      refine lv_iconst (v := 3) cx.1 cx.2.1 dL_isEven_8 (by decide) ?_
      refine lv_icmp_ge (tgt := 49) cx.1 cx.2.1 dL_isEven_9 (by decide) (fun h9 => absurd h9 (by decide)) (fun _ => ?_)
      refine lv_iload cx.1 cx.2.1 dL_isEven_12 (lv_at hl 1 rfl) ?_
      refine lv_if_eq (tgt := 40) cx.1 cx.2.1 dL_isEven_14 (by decide) (fun h9 => absurd h9 (by decide)) (fun _ => ?_)
      refine lv_aload_n cx.1 cx.2.1 dL_isEven_17 rfl (lv_at hl 2 rfl) ?_
      refine lv_iload_n cx.1 cx.2.1 dL_isEven_18 rfl (lv_at hl 5 rfl) ?_
      refine lv_iload cx.1 cx.2.1 dL_isEven_19 (lv_at hl 0 rfl) ?_
      refine lc_i 2 cx (hl.1.trans hml.symm) (kS_shadow l D ca ad v (nI j) 2 (vp_in_nI hj (by decide)) (vp_in_nI (n := 2) (by decide) (by decide))) hI wk_86 wk_83 wk_84 wk_85 ⟨rfl, by decide +kernel⟩ rfl ⟨rfl, rfl⟩ ⟨Nat.le_of_ble_eq_true rfl, Nat.le_of_ble_eq_true rfl⟩ (Nat.le_of_ble_eq_true rfl) dL_isEven_21 ⟨Nat.le_of_ble_eq_true rfl, Nat.le_of_ble_eq_true rfl⟩ rfl (fun H locs hI => ?_)
      refine k_top (y := xC v 2 j) (congrArg (xC v 2) (kx hj)) ?_
      refine lv_aload_n cx.1 cx.2.1 dL_isEven_24 rfl (lv_at hl 4 rfl) ?_
      refine lv_aload_n cx.1 cx.2.1 dL_isEven_25 rfl (lv_at hl 3 rfl) ?_
      refine lv_iload_n cx.1 cx.2.1 dL_isEven_26 rfl (lv_at hl 5 rfl) ?_
      refine lr_on cx hI hj dL_isEven_27 ?_
      refine lv_iload cx.1 cx.2.1 dL_isEven_28 (lv_at hl 0 rfl) ?_
      refine lc_c 3 cx (hl.1.trans hml.symm) (kL_altered l D ca cb (lK a0 t q a3 a4 a5 a6) (o j) 2) hI wk_167 wk_165 wk_166 wk_0 ⟨by decide, by decide, by decide +kernel⟩ rfl ⟨rfl, rfl⟩ ⟨Nat.le_of_ble_eq_true rfl, Nat.le_of_ble_eq_true rfl⟩ (Nat.le_of_ble_eq_true rfl) dL_isEven_30 ⟨Nat.le_of_ble_eq_true rfl, Nat.le_of_ble_eq_true rfl⟩ rfl (fun H locs hI => ?_)
      refine k_top (y := xBro v (nI j) 2) (by rw [ho, ht, hq]; exact lAlt_bro hj hA 2) ?_
      refine lv_icmp_ne (tgt := 40) cx.1 cx.2.1 dL_isEven_33 (by decide) (fun c_3 => ?_) (fun c_3 => ?_)
      · refine lv_iconst (v := 0) cx.1 cx.2.1 dL_isEven_40 (by decide) ?_
        refine lv_istore (lv' := [(4, .int 0), (5, .int 2), (0, .ref (ad 0)), (1, .ref oa), (2, .ref cb), (3, .int (nI j))]) cx.1 cx.2.1 dL_isEven_41 hl (by decide) rfl (fun ls hl => ?_)
        refine lv_iinc (v := 3) (lv' := [(5, .int 3), (4, .int 0), (0, .ref (ad 0)), (1, .ref oa), (2, .ref cb), (3, .int (nI j))]) cx.1 cx.2.1 dL_isEven_43 hl (k := 1) rfl (by decide) (by decide) rfl (fun ls hl => ?_)
        refine lv_goto (tgt := 6) cx.1 cx.2.1 dL_isEven_46 (by decide) ?_
        refine lv_iload cx.1 cx.2.1 dL_isEven_6 (lv_at hl 0 rfl) ?_
        refine lv_iconst (v := 3) cx.1 cx.2.1 dL_isEven_8 (by decide) ?_
        refine lv_icmp_ge (tgt := 49) cx.1 cx.2.1 dL_isEven_9 (by decide) (fun _ => ?_) (fun h9 => absurd (by decide) h9)
        refine lv_iload cx.1 cx.2.1 dL_isEven_49 (lv_at hl 1 rfl) ?_
        exact ke_z cx hr hlk hI (Nat.le_of_ble_eq_true rfl) (Nat.le_of_ble_eq_true rfl) dL_isEven_51 rfl (congrArg (fun z => some (Value.int z)) (even_f2 hj c_3)) rfl
      · refine lv_iconst (v := 1) cx.1 cx.2.1 dL_isEven_36 (by decide) ?_
        refine lv_goto (tgt := 41) cx.1 cx.2.1 dL_isEven_37 (by decide) ?_
        refine lv_istore (lv' := [(4, .int 1), (5, .int 2), (0, .ref (ad 0)), (1, .ref oa), (2, .ref cb), (3, .int (nI j))]) cx.1 cx.2.1 dL_isEven_41 hl (by decide) rfl (fun ls hl => ?_)
        refine lv_iinc (v := 3) (lv' := [(5, .int 3), (4, .int 1), (0, .ref (ad 0)), (1, .ref oa), (2, .ref cb), (3, .int (nI j))]) cx.1 cx.2.1 dL_isEven_43 hl (k := 1) rfl (by decide) (by decide) rfl (fun ls hl => ?_)
        refine lv_goto (tgt := 6) cx.1 cx.2.1 dL_isEven_46 (by decide) ?_
        refine lv_iload cx.1 cx.2.1 dL_isEven_6 (lv_at hl 0 rfl) ?_
        refine lv_iconst (v := 3) cx.1 cx.2.1 dL_isEven_8 (by decide) ?_
        refine lv_icmp_ge (tgt := 49) cx.1 cx.2.1 dL_isEven_9 (by decide) (fun _ => ?_) (fun h9 => absurd (by decide) h9)
        refine lv_iload cx.1 cx.2.1 dL_isEven_49 (lv_at hl 1 rfl) ?_
        exact ke_z cx hr hlk hI (Nat.le_of_ble_eq_true rfl) (Nat.le_of_ble_eq_true rfl) dL_isEven_51 rfl (congrArg (fun z => some (Value.int z)) (even_t hj c_1 c_2 c_3)) rfl
set_option maxHeartbeats 4000000 in
set_option maxRecDepth 100000 in
theorem kL_isSeen (l : Launch) (D : va_G) (ca : Nat → ClassId) (ad : Nat → Nat) (oa cb : Nat) (v : XS) (o : Nat → Int32) (a0 t q a3 a4 a5 a6 : Int32) {j : Nat} (hj : j < 40) (hA : zA v j) (hZ : zS v j) (ho : o j = lO v j) (h0 : a0 = xp v) : CM l yL_isSeen cL_isSeen 4 (some .boolean) (KR 3 64) D ca (lw ad oa cb ca v o (lK a0 t q a3 a4 a5 a6) []) [.ref (ad 0), .ref oa, .ref cb, .int (nI j)] (some (.int (b2i (xSeen v (nI j))))) (lw ad oa cb ca v o (lK a0 t q a3 a4 a5 a6) []) := by
  refine CM.of (by decide) (Nat.le_of_ble_eq_true rfl) ?_
  intro p e s m below meth c0 A ls cx hml hr hlk hI hl
  have hl : lv_has ls 4 [(0, .ref (ad 0)), (1, .ref oa), (2, .ref cb), (3, .int (nI j))] := hl
  refine lv_aload_n cx.1 cx.2.1 dL_isSeen_0 rfl (lv_at hl 1 rfl) ?_
  refine lv_iload_n cx.1 cx.2.1 dL_isSeen_1 rfl (lv_at hl 3 rfl) ?_
  refine lr_on cx hI hj dL_isSeen_2 ?_
  refine lv_if_lt (tgt := 26) cx.1 cx.2.1 dL_isSeen_3 (by decide) (fun c_1 => ?_) (fun c_1 => ?_)
  · refine lv_iconst (v := 0) cx.1 cx.2.1 dL_isSeen_26 (by decide) ?_
    exact ke_z cx hr hlk hI (Nat.le_of_ble_eq_true rfl) (Nat.le_of_ble_eq_true rfl) dL_isSeen_27 rfl (congrArg (fun z => some (Value.int z)) (seen_a (lO_lt hj hA (by rw [← ho]; exact c_1)))) rfl
  · refine lv_aload_n cx.1 cx.2.1 dL_isSeen_6 rfl (lv_at hl 2 rfl) ?_
    refine lv_iconst (v := 0) cx.1 cx.2.1 dL_isSeen_7 (by decide) ?_
    refine lr_c cx hI (vp_in_nI (n := 0) (by decide) (by decide)) dL_isSeen_8 ?_
    refine k_top (y := a0) rfl ?_
    refine lv_iconst (v := 2) cx.1 cx.2.1 dL_isSeen_9 (by decide) ?_
    refine lv_icmp_ne (tgt := 22) cx.1 cx.2.1 dL_isSeen_10 (by decide) (fun c_2 => ?_) (fun c_2 => ?_)
    · refine lv_iconst (v := 1) cx.1 cx.2.1 dL_isSeen_22 (by decide) ?_
      refine lv_goto (tgt := 27) cx.1 cx.2.1 dL_isSeen_23 (by decide) ?_
      exact ke_z cx hr hlk hI (Nat.le_of_ble_eq_true rfl) (Nat.le_of_ble_eq_true rfl) dL_isSeen_27 rfl (congrArg (fun z => some (Value.int z)) (seen_b (lO_ge hj hA (by rw [← ho]; exact c_1)) (by rw [← h0]; exact c_2))) rfl
    · refine lv_aload_n cx.1 cx.2.1 dL_isSeen_13 rfl (lv_at hl 0 rfl) ?_
      refine lv_iload_n cx.1 cx.2.1 dL_isSeen_14 rfl (lv_at hl 3 rfl) ?_
      refine lv_iconst (v := 0) cx.1 cx.2.1 dL_isSeen_15 (by decide) ?_
      refine lc_i 2 cx (hl.1.trans hml.symm) (kS_shadow l D ca ad v (nI j) 0 (vp_in_nI hj (by decide)) (vp_in_nI (n := 0) (by decide) (by decide))) hI wk_86 wk_83 wk_84 wk_85 ⟨rfl, by decide +kernel⟩ rfl ⟨rfl, rfl⟩ ⟨Nat.le_of_ble_eq_true rfl, Nat.le_of_ble_eq_true rfl⟩ (Nat.le_of_ble_eq_true rfl) dL_isSeen_16 ⟨Nat.le_of_ble_eq_true rfl, Nat.le_of_ble_eq_true rfl⟩ rfl (fun H locs hI => ?_)
      refine k_top (y := xC v 0 j) (congrArg (xC v 0) (kx hj)) ?_
      refine lv_if_lt (tgt := 26) cx.1 cx.2.1 dL_isSeen_19 (by decide) (fun c_3 => ?_) (fun c_3 => ?_)
      · refine lv_iconst (v := 0) cx.1 cx.2.1 dL_isSeen_26 (by decide) ?_
        exact ke_z cx hr hlk hI (Nat.le_of_ble_eq_true rfl) (Nat.le_of_ble_eq_true rfl) dL_isSeen_27 rfl (congrArg (fun z => some (Value.int z)) (seen_c (h0 ▸ c_2) (l_sh_lt hj hZ (by decide) c_3))) rfl
      · refine lv_iconst (v := 1) cx.1 cx.2.1 dL_isSeen_22 (by decide) ?_
        refine lv_goto (tgt := 27) cx.1 cx.2.1 dL_isSeen_23 (by decide) ?_
        exact ke_z cx hr hlk hI (Nat.le_of_ble_eq_true rfl) (Nat.le_of_ble_eq_true rfl) dL_isSeen_27 rfl (congrArg (fun z => some (Value.int z)) (seen_d (lO_ge hj hA (by rw [← ho]; exact c_1)) (l_sh_ge hj hZ (by decide) c_3))) rfl

set_option maxHeartbeats 4000000 in
set_option maxRecDepth 100000 in
theorem kX1_isIn (l : Launch) (D : va_G) (ca : Nat → ClassId) (x a b : Int32) : CM l yX1_isIn cX1_isIn 3 (some .boolean) (KR 0 0) D ca [] [.int x, .int a, .int b] (some (.int (b2i (xWithin x a b)))) [] := by
  refine CM.of (by decide) (Nat.le_of_ble_eq_true rfl) ?_
  intro p e s m below meth c A ls cx hml hr hlk hI hl
  have hl : lv_has ls 3 [(0, .int x), (1, .int a), (2, .int b)] := hl
  refine lv_iload_n cx.1 cx.2.1 dX1_isIn_0 rfl (lv_at hl 0 rfl) ?_
  refine lv_iload_n cx.1 cx.2.1 dX1_isIn_1 rfl (lv_at hl 1 rfl) ?_
  refine lv_icmp_lt (tgt := 14) cx.1 cx.2.1 dX1_isIn_2 (by decide) (fun c_1 => ?_) (fun c_1 => ?_)
  · refine lv_iconst (v := 0) cx.1 cx.2.1 dX1_isIn_14 (by decide) ?_
    exact ke_z cx hr hlk hI (Nat.zero_le _) (Nat.zero_le _) dX1_isIn_15 rfl (congrArg (fun z => some (Value.int z)) (by simp [xWithin, b2i, c_1])) rfl
  · refine lv_iload_n cx.1 cx.2.1 dX1_isIn_5 rfl (lv_at hl 0 rfl) ?_
    refine lv_iload_n cx.1 cx.2.1 dX1_isIn_6 rfl (lv_at hl 2 rfl) ?_
    refine lv_icmp_gt (tgt := 14) cx.1 cx.2.1 dX1_isIn_7 (by decide) (fun c_2 => ?_) (fun c_2 => ?_)
    · refine lv_iconst (v := 0) cx.1 cx.2.1 dX1_isIn_14 (by decide) ?_
      exact ke_z cx hr hlk hI (Nat.zero_le _) (Nat.zero_le _) dX1_isIn_15 rfl (congrArg (fun z => some (Value.int z)) (by simp [xWithin, b2i, c_1, c_2])) rfl
    · refine lv_iconst (v := 1) cx.1 cx.2.1 dX1_isIn_10 (by decide) ?_
      refine lv_goto (tgt := 15) cx.1 cx.2.1 dX1_isIn_11 (by decide) ?_
      exact ke_z cx hr hlk hI (Nat.zero_le _) (Nat.zero_le _) dX1_isIn_15 rfl (congrArg (fun z => some (Value.int z)) (by simp [xWithin, b2i, c_1, c_2])) rfl
set_option maxHeartbeats 4000000 in
set_option maxRecDepth 100000 in
theorem kX1_isKey (l : Launch) (D : va_G) (ca : Nat → ClassId) (key : Int32) : CM l yX1_isKey cX1_isKey 1 (some .boolean) (KR 1 22) D ca [] [.int key] (some (.int (b2i (xWithin key 0 39)))) [] := by
  refine CM.of (by decide) (Nat.le_of_ble_eq_true rfl) ?_
  intro p e s m below meth c A ls cx hml hr hlk hI hl
  have hl : lv_has ls 1 [(0, .int key)] := hl
  refine lv_iload_n cx.1 cx.2.1 dX1_isKey_0 rfl (lv_at hl 0 rfl) ?_
  refine lv_iconst (v := 0) cx.1 cx.2.1 dX1_isKey_1 (by decide) ?_
  refine lv_bipush (v := 39) cx.1 cx.2.1 dX1_isKey_2 (by decide) ?_
  refine ks_i 3 cx (hl.1.trans hml.symm) (kX1_isIn l D ca key 0 39) hI wk_497 wk_495 wk_496 wk_3 ⟨by decide, by decide, by decide +kernel⟩ rfl ⟨rfl, rfl⟩ ⟨Nat.le_of_ble_eq_true rfl, Nat.le_of_ble_eq_true rfl⟩ (Nat.le_of_ble_eq_true rfl) dX1_isKey_4 ⟨Nat.zero_le _, Nat.zero_le _⟩ rfl (fun H locs hI => ?_)
  exact ke_z cx hr hlk hI (Nat.zero_le _) (Nat.zero_le _) dX1_isKey_7 (b2i_nar _) rfl rfl
set_option maxHeartbeats 4000000 in
set_option maxRecDepth 100000 in
theorem kX1_isColumn (l : Launch) (D : va_G) (ca : Nat → ClassId) (col : Int32) : CM l yX1_isColumn cX1_isColumn 1 (some .boolean) (KR 1 22) D ca [] [.int col] (some (.int (b2i (xWithin col 0 2)))) [] := by
  refine CM.of (by decide) (Nat.le_of_ble_eq_true rfl) ?_
  intro p e s m below meth c A ls cx hml hr hlk hI hl
  have hl : lv_has ls 1 [(0, .int col)] := hl
  refine lv_iload_n cx.1 cx.2.1 dX1_isColumn_0 rfl (lv_at hl 0 rfl) ?_
  refine lv_iconst (v := 0) cx.1 cx.2.1 dX1_isColumn_1 (by decide) ?_
  refine lv_iconst (v := 2) cx.1 cx.2.1 dX1_isColumn_2 (by decide) ?_
  refine ks_i 3 cx (hl.1.trans hml.symm) (kX1_isIn l D ca col 0 2) hI wk_497 wk_495 wk_496 wk_3 ⟨by decide, by decide, by decide +kernel⟩ rfl ⟨rfl, rfl⟩ ⟨Nat.le_of_ble_eq_true rfl, Nat.le_of_ble_eq_true rfl⟩ (Nat.le_of_ble_eq_true rfl) dX1_isColumn_3 ⟨Nat.zero_le _, Nat.zero_le _⟩ rfl (fun H locs hI => ?_)
  exact ke_z cx hr hlk hI (Nat.zero_le _) (Nat.zero_le _) dX1_isColumn_6 (b2i_nar _) rfl rfl
set_option maxHeartbeats 4000000 in
set_option maxRecDepth 100000 in
theorem kX1_digits (l : Launch) (D : va_G) (ca : Nat → ClassId) (b : Int32) : CM l yX1_digits cX1_digits 1 (some .int) (KR 0 0) D ca [] [.int b] (some (.int (xDig b))) [] := by
  refine CM.of (by decide) (Nat.le_of_ble_eq_true rfl) ?_
  intro p e s m below meth c A ls cx hml hr hlk hI hl
  have hl : lv_has ls 1 [(0, .int b)] := hl
  refine lv_iload_n cx.1 cx.2.1 dX1_digits_0 rfl (lv_at hl 0 rfl) ?_
  refine lv_bipush (v := 10) cx.1 cx.2.1 dX1_digits_1 (by decide) ?_
  refine lv_icmp_ge (tgt := 10) cx.1 cx.2.1 dX1_digits_3 (by decide) (fun c_1 => ?_) (fun c_1 => ?_)
  · refine lv_iload_n cx.1 cx.2.1 dX1_digits_10 rfl (lv_at hl 0 rfl) ?_
    refine lv_bipush (v := 100) cx.1 cx.2.1 dX1_digits_11 (by decide) ?_
    refine lv_icmp_ge (tgt := 20) cx.1 cx.2.1 dX1_digits_13 (by decide) (fun c_2 => ?_) (fun c_2 => ?_)
    · refine lv_iconst (v := 3) cx.1 cx.2.1 dX1_digits_20 (by decide) ?_
      exact ke_i cx hr hlk hI (Nat.zero_le _) (Nat.zero_le _) dX1_digits_21 (congrArg (fun z => some (Value.int z)) (by simp [xDig, c_1, c_2])) rfl
    · refine lv_iconst (v := 2) cx.1 cx.2.1 dX1_digits_16 (by decide) ?_
      refine lv_goto (tgt := 21) cx.1 cx.2.1 dX1_digits_17 (by decide) ?_
      exact ke_i cx hr hlk hI (Nat.zero_le _) (Nat.zero_le _) dX1_digits_21 (congrArg (fun z => some (Value.int z)) (by simp [xDig, c_1, c_2])) rfl
  · refine lv_iconst (v := 1) cx.1 cx.2.1 dX1_digits_6 (by decide) ?_
    refine lv_goto (tgt := 21) cx.1 cx.2.1 dX1_digits_7 (by decide) ?_
    exact ke_i cx hr hlk hI (Nat.zero_le _) (Nat.zero_le _) dX1_digits_21 (congrArg (fun z => some (Value.int z)) (by simp [xDig, c_1])) rfl
set_option maxHeartbeats 4000000 in
set_option maxRecDepth 100000 in
theorem kX1_thrown (l : Launch) (D : va_G) (ca : Nat → ClassId) (ad : Nat → Nat) (v : MS) : CM l yX1_thrown cX1_thrown 1 (some .int) (KR 0 0) D ca (mw ad ca v) [.ref (ad 0)] (some (.int (mz v))) (mw ad ca v) := by
  refine CM.of (by decide) (Nat.le_of_ble_eq_true rfl) ?_
  intro p e s m below meth c A ls cx hml hr hlk hI hl
  have hl : lv_has ls 1 [(0, .ref (ad 0))] := hl
  refine lv_aload_n cx.1 cx.2.1 dX1_thrown_0 rfl (lv_at hl 0 rfl) ?_
  refine mg_12 cx hI dX1_thrown_1 ?_
  exact ke_i cx hr hlk hI (Nat.zero_le _) (Nat.zero_le _) dX1_thrown_4 rfl rfl
set_option maxHeartbeats 4000000 in
set_option maxRecDepth 100000 in
theorem kX1_can (l : Launch) (D : va_G) (ca : Nat → ClassId) (ad : Nat → Nat) (v : MS) (f : Int32) : CM l yX1_can cX1_can 2 (some .boolean) (KR 0 0) D ca (mw ad ca v) [.ref (ad 0), .int f] (some (.int (b2i (decide (f = 0))))) (mw ad ca (mUz v f)) := by
  refine CM.of (by decide) (Nat.le_of_ble_eq_true rfl) ?_
  intro p e s m below meth c A ls cx hml hr hlk hI hl
  have hl : lv_has ls 2 [(0, .ref (ad 0)), (1, .int f)] := hl
  refine lv_aload_n cx.1 cx.2.1 dX1_can_0 rfl (lv_at hl 0 rfl) ?_
  refine lv_iload_n cx.1 cx.2.1 dX1_can_1 rfl (lv_at hl 1 rfl) ?_
  refine mp_12 cx hI dX1_can_2 (fun H locs hI => ?_)
  refine lv_iload_n cx.1 cx.2.1 dX1_can_5 rfl (lv_at hl 1 rfl) ?_
  refine lv_if_ne (tgt := 13) cx.1 cx.2.1 dX1_can_6 (by decide) (fun c_1 => ?_) (fun c_1 => ?_)
  · refine lv_iconst (v := 0) cx.1 cx.2.1 dX1_can_13 (by decide) ?_
    exact ke_z cx hr hlk hI (Nat.zero_le _) (Nat.zero_le _) dX1_can_14 rfl (congrArg (fun z => some (Value.int z)) (by simp [b2i, c_1])) rfl
  · refine lv_iconst (v := 1) cx.1 cx.2.1 dX1_can_9 (by decide) ?_
    refine lv_goto (tgt := 14) cx.1 cx.2.1 dX1_can_10 (by decide) ?_
    exact ke_z cx hr hlk hI (Nat.zero_le _) (Nat.zero_le _) dX1_can_14 rfl (congrArg (fun z => some (Value.int z)) (by simp [b2i, c_1])) rfl
set_option maxHeartbeats 4000000 in
set_option maxRecDepth 100000 in
theorem kX1_suits (l : Launch) (D : va_G) (ca : Nat → ClassId) (ad : Nat → Nat) (v : MS) (row : Int32) : CM l yX1_suits cX1_suits 2 (some .boolean) (KR 0 0) D ca (mw ad ca v) [.ref (ad 0), .int row] (some (.int (b2i (mSuits v row)))) (mw ad ca v) := by
  refine CM.of (by decide) (Nat.le_of_ble_eq_true rfl) ?_
  intro p e s m below meth c A ls cx hml hr hlk hI hl
  have hl : lv_has ls 2 [(0, .ref (ad 0)), (1, .int row)] := hl
  refine lv_aload_n cx.1 cx.2.1 dX1_suits_0 rfl (lv_at hl 0 rfl) ?_
  refine mg_5 cx hI dX1_suits_1 ?_
  refine lv_iconst (v := 1) cx.1 cx.2.1 dX1_suits_4 (by decide) ?_
  refine lv_icmp_ne (tgt := 20) cx.1 cx.2.1 dX1_suits_5 (by decide) (fun c_1 => ?_) (fun c_1 => ?_)
  · refine lv_iconst (v := 1) cx.1 cx.2.1 dX1_suits_20 (by decide) ?_
    refine lv_goto (tgt := 25) cx.1 cx.2.1 dX1_suits_21 (by decide) ?_
    exact ke_z cx hr hlk hI (Nat.zero_le _) (Nat.zero_le _) dX1_suits_25 rfl (congrArg (fun z => some (Value.int z)) (by simp [mSuits, b2i, mRb, c_1])) rfl
  · refine lv_iload_n cx.1 cx.2.1 dX1_suits_8 rfl (lv_at hl 1 rfl) ?_
    refine lv_sipush (v := 1000) cx.1 cx.2.1 dX1_suits_9 (by decide) ?_
    refine lv_irem cx.1 cx.2.1 dX1_suits_12 (by decide) ?_
    refine lv_aload_n cx.1 cx.2.1 dX1_suits_13 rfl (lv_at hl 0 rfl) ?_
    refine mg_6 cx hI dX1_suits_14 ?_
    refine lv_icmp_gt (tgt := 24) cx.1 cx.2.1 dX1_suits_17 (by decide) (fun c_2 => ?_) (fun c_2 => ?_)
    · refine lv_iconst (v := 0) cx.1 cx.2.1 dX1_suits_24 (by decide) ?_
      exact ke_z cx hr hlk hI (Nat.zero_le _) (Nat.zero_le _) dX1_suits_25 rfl (congrArg (fun z => some (Value.int z)) (by simp [mSuits, b2i, mRb, c_1, c_2])) rfl
    · refine lv_iconst (v := 1) cx.1 cx.2.1 dX1_suits_20 (by decide) ?_
      refine lv_goto (tgt := 25) cx.1 cx.2.1 dX1_suits_21 (by decide) ?_
      exact ke_z cx hr hlk hI (Nat.zero_le _) (Nat.zero_le _) dX1_suits_25 rfl (congrArg (fun z => some (Value.int z)) (by simp [mSuits, b2i, mRb, c_1, c_2])) rfl
set_option maxHeartbeats 4000000 in
set_option maxRecDepth 100000 in
theorem kX1_altered (l : Launch) (D : va_G) (ca : Nat → ClassId) (ad : Nat → Nat) (v : MS) (row col : Int32) : CM l yX1_altered cX1_altered 5 (some .int) (KR 1 20) D ca (mw ad ca v) [.ref (ad 0), .int row, .int col] (some (.int (mAlt v row col))) (mw ad ca v) := by
  refine CM.of (by decide) (Nat.le_of_ble_eq_true rfl) ?_
  intro p e s m below meth c A ls cx hml hr hlk hI hl
  have hl : lv_has ls 5 [(0, .ref (ad 0)), (1, .int row), (2, .int col)] := hl
  refine lv_iload_n cx.1 cx.2.1 dX1_altered_0 rfl (lv_at hl 1 rfl) ?_
  refine lv_sipush (v := 1000) cx.1 cx.2.1 dX1_altered_1 (by decide) ?_
  refine lv_idiv cx.1 cx.2.1 dX1_altered_4 (by decide) ?_
  refine lv_istore_n (lv' := [(3, .int (row / 1000)), (0, .ref (ad 0)), (1, .int row), (2, .int col)]) cx.1 cx.2.1 dX1_altered_5 rfl hl (by decide) rfl (fun ls hl => ?_)
  refine lv_iload_n cx.1 cx.2.1 dX1_altered_6 rfl (lv_at hl 2 rfl) ?_
  refine lv_sipush (v := 1000) cx.1 cx.2.1 dX1_altered_7 (by decide) ?_
  refine lv_irem cx.1 cx.2.1 dX1_altered_10 (by decide) ?_
  refine lv_istore (lv' := [(4, .int (row - row / 1000 * 1000)), (3, .int (row / 1000)), (0, .ref (ad 0)), (1, .int row), (2, .int col)]) cx.1 cx.2.1 dX1_altered_11 hl (by decide) rfl (fun ls hl => ?_)
  refine lv_aload_n cx.1 cx.2.1 dX1_altered_13 rfl (lv_at hl 2 rfl) ?_
  refine mg_5 cx hI dX1_altered_14 ?_
  refine lv_if_ne (tgt := 46) cx.1 cx.2.1 dX1_altered_17 (by decide) (fun c_1 => ?_) (fun c_1 => ?_)
  · refine lv_aload_n cx.1 cx.2.1 dX1_altered_46 rfl (lv_at hl 2 rfl) ?_
    refine mg_5 cx hI dX1_altered_47 ?_
    refine lv_iconst (v := 1) cx.1 cx.2.1 dX1_altered_50 (by decide) ?_
    refine lv_icmp_ne (tgt := 74) cx.1 cx.2.1 dX1_altered_51 (by decide) (fun c_2 => ?_) (fun c_2 => ?_)
    · refine lv_iload_n cx.1 cx.2.1 dX1_altered_74 rfl (lv_at hl 4 rfl) ?_
      refine lv_if_ne (tgt := 82) cx.1 cx.2.1 dX1_altered_75 (by decide) (fun c_3 => ?_) (fun c_3 => ?_)
      · refine lv_iload_n cx.1 cx.2.1 dX1_altered_82 rfl (lv_at hl 4 rfl) ?_
        refine lv_iconst (v := 1) cx.1 cx.2.1 dX1_altered_83 (by decide) ?_
        refine lv_icmp_ne (tgt := 97) cx.1 cx.2.1 dX1_altered_84 (by decide) (fun c_4 => ?_) (fun c_4 => ?_)
        · refine lv_iload cx.1 cx.2.1 dX1_altered_97 (lv_at hl 0 rfl) ?_
          refine ks_i 1 cx (hl.1.trans hml.symm) (kX1_digits l D ca (row - row / 1000 * 1000)) hI wk_531 wk_529 wk_530 wk_3 ⟨by decide, by decide, by decide +kernel⟩ rfl ⟨rfl, rfl⟩ ⟨Nat.le_of_ble_eq_true rfl, Nat.le_of_ble_eq_true rfl⟩ (Nat.le_of_ble_eq_true rfl) dX1_altered_99 ⟨Nat.zero_le _, Nat.zero_le _⟩ rfl (fun H locs hI => ?_)
          exact ke_i cx hr hlk hI (Nat.zero_le _) (Nat.zero_le _) dX1_altered_102 (congrArg (fun z => some (Value.int z)) (by simp [mAlt, mRa, mRb, c_1, c_2, c_3, c_4])) rfl
        · refine lv_iload cx.1 cx.2.1 dX1_altered_87 (lv_at hl 0 rfl) ?_
          refine lv_aload_n cx.1 cx.2.1 dX1_altered_89 rfl (lv_at hl 2 rfl) ?_
          refine mg_6 cx hI dX1_altered_90 ?_
          refine lv_imul cx.1 cx.2.1 dX1_altered_93 ?_
          refine lv_goto (tgt := 102) cx.1 cx.2.1 dX1_altered_94 (by decide) ?_
          exact ke_i cx hr hlk hI (Nat.zero_le _) (Nat.zero_le _) dX1_altered_102 (congrArg (fun z => some (Value.int z)) (by simp [mAlt, mRa, mRb, c_1, c_2, c_3, c_4])) rfl
      · refine lv_iload_n cx.1 cx.2.1 dX1_altered_78 rfl (lv_at hl 1 rfl) ?_
        refine lv_goto (tgt := 102) cx.1 cx.2.1 dX1_altered_79 (by decide) ?_
        exact ke_i cx hr hlk hI (Nat.zero_le _) (Nat.zero_le _) dX1_altered_102 (congrArg (fun z => some (Value.int z)) (by simp [mAlt, mRa, mRb, c_1, c_2, c_3])) rfl
    · refine lv_iload_n cx.1 cx.2.1 dX1_altered_54 rfl (lv_at hl 4 rfl) ?_
      refine lv_if_ne (tgt := 62) cx.1 cx.2.1 dX1_altered_55 (by decide) (fun c_5 => ?_) (fun c_5 => ?_)
      · refine lv_iload_n cx.1 cx.2.1 dX1_altered_62 rfl (lv_at hl 4 rfl) ?_
        refine lv_iconst (v := 1) cx.1 cx.2.1 dX1_altered_63 (by decide) ?_
        refine lv_icmp_ne (tgt := 72) cx.1 cx.2.1 dX1_altered_64 (by decide) (fun c_6 => ?_) (fun c_6 => ?_)
        · refine lv_iconst (v := 0) cx.1 cx.2.1 dX1_altered_72 (by decide) ?_
          exact ke_i cx hr hlk hI (Nat.zero_le _) (Nat.zero_le _) dX1_altered_73 (congrArg (fun z => some (Value.int z)) (by simp [mAlt, mRa, mRb, c_1, c_2, c_5, c_6])) rfl
        · refine lv_iload cx.1 cx.2.1 dX1_altered_67 (lv_at hl 0 rfl) ?_
          refine lv_goto (tgt := 73) cx.1 cx.2.1 dX1_altered_69 (by decide) ?_
          exact ke_i cx hr hlk hI (Nat.zero_le _) (Nat.zero_le _) dX1_altered_73 (congrArg (fun z => some (Value.int z)) (by simp [mAlt, mRa, mRb, c_1, c_2, c_5, c_6])) rfl
      · refine lv_iload_n cx.1 cx.2.1 dX1_altered_58 rfl (lv_at hl 1 rfl) ?_
        refine lv_goto (tgt := 73) cx.1 cx.2.1 dX1_altered_59 (by decide) ?_
        exact ke_i cx hr hlk hI (Nat.zero_le _) (Nat.zero_le _) dX1_altered_73 (congrArg (fun z => some (Value.int z)) (by simp [mAlt, mRa, mRb, c_1, c_2, c_5])) rfl
  · refine lv_iload_n cx.1 cx.2.1 dX1_altered_20 rfl (lv_at hl 4 rfl) ?_
    refine lv_if_ne (tgt := 31) cx.1 cx.2.1 dX1_altered_21 (by decide) (fun c_7 => ?_) (fun c_7 => ?_)
    · refine lv_iload_n cx.1 cx.2.1 dX1_altered_31 rfl (lv_at hl 4 rfl) ?_
      refine lv_iconst (v := 1) cx.1 cx.2.1 dX1_altered_32 (by decide) ?_
      refine lv_icmp_ne (tgt := 43) cx.1 cx.2.1 dX1_altered_33 (by decide) (fun c_8 => ?_) (fun c_8 => ?_)
      · refine lv_iload cx.1 cx.2.1 dX1_altered_43 (lv_at hl 0 rfl) ?_
        exact ke_i cx hr hlk hI (Nat.zero_le _) (Nat.zero_le _) dX1_altered_45 (congrArg (fun z => some (Value.int z)) (by simp [mAlt, mRa, mRb, c_1, c_7, c_8])) rfl
      · refine lv_iload_n cx.1 cx.2.1 dX1_altered_36 rfl (lv_at hl 1 rfl) ?_
        refine lv_bipush (v := 100) cx.1 cx.2.1 dX1_altered_37 (by decide) ?_
        refine lv_irem cx.1 cx.2.1 dX1_altered_39 (by decide) ?_
        refine lv_goto (tgt := 45) cx.1 cx.2.1 dX1_altered_40 (by decide) ?_
        exact ke_i cx hr hlk hI (Nat.zero_le _) (Nat.zero_le _) dX1_altered_45 (congrArg (fun z => some (Value.int z)) (by simp [mAlt, mRa, mRb, c_1, c_7, c_8])) rfl
    · refine lv_iload_n cx.1 cx.2.1 dX1_altered_24 rfl (lv_at hl 1 rfl) ?_
      refine lv_bipush (v := 100) cx.1 cx.2.1 dX1_altered_25 (by decide) ?_
      refine lv_idiv cx.1 cx.2.1 dX1_altered_27 (by decide) ?_
      refine lv_goto (tgt := 45) cx.1 cx.2.1 dX1_altered_28 (by decide) ?_
      exact ke_i cx hr hlk hI (Nat.zero_le _) (Nat.zero_le _) dX1_altered_45 (congrArg (fun z => some (Value.int z)) (by simp [mAlt, mRa, mRb, c_1, c_7])) rfl
set_option maxHeartbeats 4000000 in
set_option maxRecDepth 100000 in
theorem kX1_isSeen (l : Launch) (D : va_G) (ca : Nat → ClassId) (ad : Nat → Nat) (v : MS) (key : Int32) (hk : vp_in key 40) : CM l yX1_isSeen cX1_isSeen 2 (some .boolean) (KR 0 0) D ca (mw ad ca v) [.ref (ad 0), .int key] (some (.int (b2i (mSeen v key)))) (mw ad ca v) := by
  refine CM.of (by decide) (Nat.le_of_ble_eq_true rfl) ?_
  intro p e s m below meth c A ls cx hml hr hlk hI hl
  have hl : lv_has ls 2 [(0, .ref (ad 0)), (1, .int key)] := hl
  refine lv_aload_n cx.1 cx.2.1 dX1_isSeen_0 rfl (lv_at hl 0 rfl) ?_
  refine mg_0 cx hI dX1_isSeen_1 ?_
  refine lv_iload_n cx.1 cx.2.1 dX1_isSeen_4 rfl (lv_at hl 1 rfl) ?_
  refine ma_O cx hI hk dX1_isSeen_5 ?_
  refine lv_iconst (v := (-1)) cx.1 cx.2.1 dX1_isSeen_6 (by decide) ?_
  refine lv_icmp_eq (tgt := 31) cx.1 cx.2.1 dX1_isSeen_7 (by decide) (fun c_1 => ?_) (fun c_1 => ?_)
  · refine lv_iconst (v := 0) cx.1 cx.2.1 dX1_isSeen_31 (by decide) ?_
    exact ke_z cx hr hlk hI (Nat.zero_le _) (Nat.zero_le _) dX1_isSeen_32 rfl (congrArg (fun z => some (Value.int z)) (by simp [mSeen, b2i, c_1])) rfl
  · refine lv_aload_n cx.1 cx.2.1 dX1_isSeen_10 rfl (lv_at hl 0 rfl) ?_
    refine mg_4 cx hI dX1_isSeen_11 ?_
    refine lv_iconst (v := 2) cx.1 cx.2.1 dX1_isSeen_14 (by decide) ?_
    refine lv_icmp_ne (tgt := 27) cx.1 cx.2.1 dX1_isSeen_15 (by decide) (fun c_2 => ?_) (fun c_2 => ?_)
    · refine lv_iconst (v := 1) cx.1 cx.2.1 dX1_isSeen_27 (by decide) ?_
      refine lv_goto (tgt := 32) cx.1 cx.2.1 dX1_isSeen_28 (by decide) ?_
      exact ke_z cx hr hlk hI (Nat.zero_le _) (Nat.zero_le _) dX1_isSeen_32 rfl (congrArg (fun z => some (Value.int z)) (by simp [mSeen, b2i, c_1, c_2])) rfl
    · refine lv_aload_n cx.1 cx.2.1 dX1_isSeen_18 rfl (lv_at hl 0 rfl) ?_
      refine mg_2 cx hI dX1_isSeen_19 ?_
      refine lv_iload_n cx.1 cx.2.1 dX1_isSeen_22 rfl (lv_at hl 1 rfl) ?_
      refine ma_H cx hI hk dX1_isSeen_23 ?_
      refine lv_if_eq (tgt := 31) cx.1 cx.2.1 dX1_isSeen_24 (by decide) (fun c_3 => ?_) (fun c_3 => ?_)
      · refine lv_iconst (v := 0) cx.1 cx.2.1 dX1_isSeen_31 (by decide) ?_
        exact ke_z cx hr hlk hI (Nat.zero_le _) (Nat.zero_le _) dX1_isSeen_32 rfl (congrArg (fun z => some (Value.int z)) (by simp [mSeen, b2i, c_1, c_2, c_3])) rfl
      · refine lv_iconst (v := 1) cx.1 cx.2.1 dX1_isSeen_27 (by decide) ?_
        refine lv_goto (tgt := 32) cx.1 cx.2.1 dX1_isSeen_28 (by decide) ?_
        exact ke_z cx hr hlk hI (Nat.zero_le _) (Nat.zero_le _) dX1_isSeen_32 rfl (congrArg (fun z => some (Value.int z)) (by simp [mSeen, b2i, c_1, c_2, c_3])) rfl
set_option maxHeartbeats 4000000 in
set_option maxRecDepth 100000 in
theorem kX1_brings (l : Launch) (D : va_G) (ca : Nat → ClassId) (ad : Nat → Nat) (v : MS) (key : Int32) (hk : vp_in key 40) : CM l yX1_brings cX1_brings 3 none (KR 2 44) D ca (mw ad ca v) [.ref (ad 0), .int key] none (mw ad ca (mBrings v key)) := by
  refine CM.of (by decide) (Nat.le_of_ble_eq_true rfl) ?_
  intro p e s m below meth c A ls cx hml hr hlk hI hl
  have hl : lv_has ls 3 [(0, .ref (ad 0)), (1, .int key)] := hl
  refine lv_aload_n cx.1 cx.2.1 dX1_brings_0 rfl (lv_at hl 0 rfl) ?_
  refine mg_2 cx hI dX1_brings_1 ?_
  refine lv_iload_n cx.1 cx.2.1 dX1_brings_4 rfl (lv_at hl 1 rfl) ?_
  refine k_join (D := D) (A := A) 33 (mw ad ca v) [.int (b2i (mDue v key)), .int key, .ref (ad 3)] (fun H locs hI => ?_) (fun hj33 => ?_)
  · refine ms_H cx hI hk dX1_brings_33 (fun H locs hI => ?_)
    have hI : KI D A (mw ad ca (mB1 v key)) s.heap _ _ := hI
    refine lv_aload_n cx.1 cx.2.1 dX1_brings_34 rfl (lv_at hl 0 rfl) ?_
    refine mg_3 cx hI dX1_brings_35 ?_
    refine lv_iload_n cx.1 cx.2.1 dX1_brings_38 rfl (lv_at hl 1 rfl) ?_
    refine k_join (D := D) (A := A) 63 (mw ad ca (mB1 v key)) [.int (b2i (mOutB (mB1 v key) key)), .int key, .ref (ad 4)] (fun H locs hI => ?_) (fun hj63 => ?_)
    · refine ms_F cx hI hk dX1_brings_63 (fun H locs hI => ?_)
      have hI : KI D A (mw ad ca (mB2 v key)) s.heap _ _ := hI
      refine lv_iconst (v := 0) cx.1 cx.2.1 dX1_brings_64 (by decide) ?_
      refine lv_istore_n (lv' := [(2, .int 0), (0, .ref (ad 0)), (1, .int key)]) cx.1 cx.2.1 dX1_brings_65 rfl hl (by decide) rfl (fun ls hl => ?_)
      refine lv_iload_n cx.1 cx.2.1 dX1_brings_66 rfl (lv_at hl 0 rfl) ?_
      refine lv_iconst (v := 3) cx.1 cx.2.1 dX1_brings_67 (by decide) ?_
      refine lv_icmp_ge (tgt := 107) cx.1 cx.2.1 dX1_brings_68 (by decide) (fun h9 => absurd h9 (by decide)) (fun _ => ?_)
      refine lv_aload_n cx.1 cx.2.1 dX1_brings_71 rfl (lv_at hl 1 rfl) ?_
      refine mg_2 cx hI dX1_brings_72 ?_
      refine lv_iload_n cx.1 cx.2.1 dX1_brings_75 rfl (lv_at hl 2 rfl) ?_
      refine ma_H cx hI hk dX1_brings_76 ?_
      refine lv_if_eq (tgt := 107) cx.1 cx.2.1 dX1_brings_77 (by decide) (fun c_2 => ?_) (fun c_2 => ?_)
      · exact ke_v cx hr hlk hI (Nat.zero_le _) (Nat.zero_le _) dX1_brings_107 rfl (congrArg (mw ad ca) (by simp [mBrings, mS3, c_2]))
      · refine lv_aload_n cx.1 cx.2.1 dX1_brings_80 rfl (lv_at hl 1 rfl) ?_
        refine mg_1 cx hI dX1_brings_81 ?_
        refine lv_iconst (v := 3) cx.1 cx.2.1 dX1_brings_84 (by decide) ?_
        refine lv_iload_n cx.1 cx.2.1 dX1_brings_85 rfl (lv_at hl 2 rfl) ?_
        refine lv_imul cx.1 cx.2.1 dX1_brings_86 ?_
        refine lv_iload_n cx.1 cx.2.1 dX1_brings_87 rfl (lv_at hl 0 rfl) ?_
        refine lv_iadd cx.1 cx.2.1 dX1_brings_88 ?_
        refine lv_aload_n cx.1 cx.2.1 dX1_brings_89 rfl (lv_at hl 1 rfl) ?_
        refine lv_aload_n cx.1 cx.2.1 dX1_brings_90 rfl (lv_at hl 1 rfl) ?_
        refine mg_0 cx hI dX1_brings_91 ?_
        refine lv_iload_n cx.1 cx.2.1 dX1_brings_94 rfl (lv_at hl 2 rfl) ?_
        refine ma_O cx hI hk dX1_brings_95 ?_
        refine lv_iload_n cx.1 cx.2.1 dX1_brings_96 rfl (lv_at hl 0 rfl) ?_
        refine mc_i 2 cx (hl.1.trans hml.symm) (kX1_altered l D ca ad (mB2 v key) (mO (mB2 v key) key.toNatClampNeg) 0) hI wk_528 wk_525 wk_527 wq_28 ⟨rfl, by decide +kernel⟩ rfl ⟨rfl, rfl⟩ ⟨Nat.le_of_ble_eq_true rfl, Nat.le_of_ble_eq_true rfl⟩ (Nat.le_of_ble_eq_true rfl) dX1_brings_97 ⟨Nat.zero_le _, Nat.zero_le _⟩ rfl (fun H locs hI => ?_)
        refine ms_S cx hI (kidx hk (vp0 (by decide) (by decide))) dX1_brings_100 (fun H locs hI => ?_)
        have hI : KI D A (mw ad ca (mSt (mB2 v key) key 0)) s.heap _ _ := hI
        refine lv_iinc (v := 1) (lv' := [(2, .int 1), (0, .ref (ad 0)), (1, .int key)]) cx.1 cx.2.1 dX1_brings_101 hl (k := 0) rfl (by decide) (by decide) rfl (fun ls hl => ?_)
        refine lv_goto (tgt := 66) cx.1 cx.2.1 dX1_brings_104 (by decide) ?_
        refine lv_iload_n cx.1 cx.2.1 dX1_brings_66 rfl (lv_at hl 0 rfl) ?_
        refine lv_iconst (v := 3) cx.1 cx.2.1 dX1_brings_67 (by decide) ?_
        refine lv_icmp_ge (tgt := 107) cx.1 cx.2.1 dX1_brings_68 (by decide) (fun h9 => absurd h9 (by decide)) (fun _ => ?_)
        refine lv_aload_n cx.1 cx.2.1 dX1_brings_71 rfl (lv_at hl 1 rfl) ?_
        refine mg_2 cx hI dX1_brings_72 ?_
        refine lv_iload_n cx.1 cx.2.1 dX1_brings_75 rfl (lv_at hl 2 rfl) ?_
        refine ma_H cx hI hk dX1_brings_76 ?_
        refine lv_if_eq (tgt := 107) cx.1 cx.2.1 dX1_brings_77 (by decide) (fun h9 => absurd h9 c_2) (fun _ => ?_)
        refine lv_aload_n cx.1 cx.2.1 dX1_brings_80 rfl (lv_at hl 1 rfl) ?_
        refine mg_1 cx hI dX1_brings_81 ?_
        refine lv_iconst (v := 3) cx.1 cx.2.1 dX1_brings_84 (by decide) ?_
        refine lv_iload_n cx.1 cx.2.1 dX1_brings_85 rfl (lv_at hl 2 rfl) ?_
        refine lv_imul cx.1 cx.2.1 dX1_brings_86 ?_
        refine lv_iload_n cx.1 cx.2.1 dX1_brings_87 rfl (lv_at hl 0 rfl) ?_
        refine lv_iadd cx.1 cx.2.1 dX1_brings_88 ?_
        refine lv_aload_n cx.1 cx.2.1 dX1_brings_89 rfl (lv_at hl 1 rfl) ?_
        refine lv_aload_n cx.1 cx.2.1 dX1_brings_90 rfl (lv_at hl 1 rfl) ?_
        refine mg_0 cx hI dX1_brings_91 ?_
        refine lv_iload_n cx.1 cx.2.1 dX1_brings_94 rfl (lv_at hl 2 rfl) ?_
        refine ma_O cx hI hk dX1_brings_95 ?_
        refine lv_iload_n cx.1 cx.2.1 dX1_brings_96 rfl (lv_at hl 0 rfl) ?_
        refine mc_i 2 cx (hl.1.trans hml.symm) (kX1_altered l D ca ad (mSt (mB2 v key) key 0) (mO (mSt (mB2 v key) key 0) key.toNatClampNeg) 1) hI wk_528 wk_525 wk_527 wq_28 ⟨rfl, by decide +kernel⟩ rfl ⟨rfl, rfl⟩ ⟨Nat.le_of_ble_eq_true rfl, Nat.le_of_ble_eq_true rfl⟩ (Nat.le_of_ble_eq_true rfl) dX1_brings_97 ⟨Nat.zero_le _, Nat.zero_le _⟩ rfl (fun H locs hI => ?_)
        refine ms_S cx hI (kidx hk (vp1 (by decide) (by decide))) dX1_brings_100 (fun H locs hI => ?_)
        have hI : KI D A (mw ad ca (mSt (mSt (mB2 v key) key 0) key 1)) s.heap _ _ := hI
        refine lv_iinc (v := 2) (lv' := [(2, .int 2), (0, .ref (ad 0)), (1, .int key)]) cx.1 cx.2.1 dX1_brings_101 hl (k := 0) rfl (by decide) (by decide) rfl (fun ls hl => ?_)
        refine lv_goto (tgt := 66) cx.1 cx.2.1 dX1_brings_104 (by decide) ?_
        refine lv_iload_n cx.1 cx.2.1 dX1_brings_66 rfl (lv_at hl 0 rfl) ?_
        refine lv_iconst (v := 3) cx.1 cx.2.1 dX1_brings_67 (by decide) ?_
        refine lv_icmp_ge (tgt := 107) cx.1 cx.2.1 dX1_brings_68 (by decide) (fun h9 => absurd h9 (by decide)) (fun _ => ?_)
        refine lv_aload_n cx.1 cx.2.1 dX1_brings_71 rfl (lv_at hl 1 rfl) ?_
        refine mg_2 cx hI dX1_brings_72 ?_
        refine lv_iload_n cx.1 cx.2.1 dX1_brings_75 rfl (lv_at hl 2 rfl) ?_
        refine ma_H cx hI hk dX1_brings_76 ?_
        refine lv_if_eq (tgt := 107) cx.1 cx.2.1 dX1_brings_77 (by decide) (fun h9 => absurd h9 c_2) (fun _ => ?_)
        refine lv_aload_n cx.1 cx.2.1 dX1_brings_80 rfl (lv_at hl 1 rfl) ?_
        refine mg_1 cx hI dX1_brings_81 ?_
        refine lv_iconst (v := 3) cx.1 cx.2.1 dX1_brings_84 (by decide) ?_
        refine lv_iload_n cx.1 cx.2.1 dX1_brings_85 rfl (lv_at hl 2 rfl) ?_
        refine lv_imul cx.1 cx.2.1 dX1_brings_86 ?_
        refine lv_iload_n cx.1 cx.2.1 dX1_brings_87 rfl (lv_at hl 0 rfl) ?_
        refine lv_iadd cx.1 cx.2.1 dX1_brings_88 ?_
        refine lv_aload_n cx.1 cx.2.1 dX1_brings_89 rfl (lv_at hl 1 rfl) ?_
        refine lv_aload_n cx.1 cx.2.1 dX1_brings_90 rfl (lv_at hl 1 rfl) ?_
        refine mg_0 cx hI dX1_brings_91 ?_
        refine lv_iload_n cx.1 cx.2.1 dX1_brings_94 rfl (lv_at hl 2 rfl) ?_
        refine ma_O cx hI hk dX1_brings_95 ?_
        refine lv_iload_n cx.1 cx.2.1 dX1_brings_96 rfl (lv_at hl 0 rfl) ?_
        refine mc_i 2 cx (hl.1.trans hml.symm) (kX1_altered l D ca ad (mSt (mSt (mB2 v key) key 0) key 1) (mO (mSt (mSt (mB2 v key) key 0) key 1) key.toNatClampNeg) 2) hI wk_528 wk_525 wk_527 wq_28 ⟨rfl, by decide +kernel⟩ rfl ⟨rfl, rfl⟩ ⟨Nat.le_of_ble_eq_true rfl, Nat.le_of_ble_eq_true rfl⟩ (Nat.le_of_ble_eq_true rfl) dX1_brings_97 ⟨Nat.zero_le _, Nat.zero_le _⟩ rfl (fun H locs hI => ?_)
        refine ms_S cx hI (kidx hk (vp2 (by decide) (by decide))) dX1_brings_100 (fun H locs hI => ?_)
        have hI : KI D A (mw ad ca (mSt (mSt (mSt (mB2 v key) key 0) key 1) key 2)) s.heap _ _ := hI
        refine lv_iinc (v := 3) (lv' := [(2, .int 3), (0, .ref (ad 0)), (1, .int key)]) cx.1 cx.2.1 dX1_brings_101 hl (k := 0) rfl (by decide) (by decide) rfl (fun ls hl => ?_)
        refine lv_goto (tgt := 66) cx.1 cx.2.1 dX1_brings_104 (by decide) ?_
        refine lv_iload_n cx.1 cx.2.1 dX1_brings_66 rfl (lv_at hl 0 rfl) ?_
        refine lv_iconst (v := 3) cx.1 cx.2.1 dX1_brings_67 (by decide) ?_
        refine lv_icmp_ge (tgt := 107) cx.1 cx.2.1 dX1_brings_68 (by decide) (fun _ => ?_) (fun h9 => absurd (by decide : (3 : Int32) ≤ 3) h9)
        exact ke_v cx hr hlk hI (Nat.zero_le _) (Nat.zero_le _) dX1_brings_107 rfl (congrArg (mw ad ca) (by simp [mBrings, mS3, c_2]))
    ·
      refine lv_aload_n cx.1 cx.2.1 dX1_brings_39 rfl (lv_at hl 0 rfl) ?_
      refine mg_0 cx hI dX1_brings_40 ?_
      refine lv_iload_n cx.1 cx.2.1 dX1_brings_43 rfl (lv_at hl 1 rfl) ?_
      refine ma_O cx hI hk dX1_brings_44 ?_
      refine lv_iconst (v := (-1)) cx.1 cx.2.1 dX1_brings_45 (by decide) ?_
      refine lv_icmp_eq (tgt := 62) cx.1 cx.2.1 dX1_brings_46 (by decide) (fun c_8 => ?_) (fun c_8 => ?_)
      · refine lv_iconst (v := 0) cx.1 cx.2.1 dX1_brings_62 (by decide) ?_
        exact k_top (by first | (simp [mBrings, mS3, c_8, mOutB, b2i]; done) | (simp [mBrings, mS3, mOutB, b2i]; exact fun h => absurd c_8 h)) (hj63 _ _ hI)
      · refine lv_aload_n cx.1 cx.2.1 dX1_brings_49 rfl (lv_at hl 0 rfl) ?_
        refine mg_2 cx hI dX1_brings_50 ?_
        refine lv_iload_n cx.1 cx.2.1 dX1_brings_53 rfl (lv_at hl 1 rfl) ?_
        refine ma_H cx hI hk dX1_brings_54 ?_
        refine lv_if_ne (tgt := 62) cx.1 cx.2.1 dX1_brings_55 (by decide) (fun c_9 => ?_) (fun c_9 => ?_)
        · refine lv_iconst (v := 0) cx.1 cx.2.1 dX1_brings_62 (by decide) ?_
          exact k_top (by first | (simp [mBrings, mS3, c_8, c_9, mOutB, b2i]; done) | (simp [mBrings, mS3, c_8, mOutB, b2i]; exact fun h => absurd c_9 h)) (hj63 _ _ hI)
        · refine lv_iconst (v := 1) cx.1 cx.2.1 dX1_brings_58 (by decide) ?_
          refine lv_goto (tgt := 63) cx.1 cx.2.1 dX1_brings_59 (by decide) ?_
          exact k_top (by first | (simp [mBrings, mS3, c_8, c_9, mOutB, b2i]; done) | (simp [mBrings, mS3, c_8, mOutB, b2i]; exact fun h => absurd c_9 h)) (hj63 _ _ hI)
  ·
    refine lv_aload_n cx.1 cx.2.1 dX1_brings_5 rfl (lv_at hl 0 rfl) ?_
    refine mg_0 cx hI dX1_brings_6 ?_
    refine lv_iload_n cx.1 cx.2.1 dX1_brings_9 rfl (lv_at hl 1 rfl) ?_
    refine ma_O cx hI hk dX1_brings_10 ?_
    refine lv_iconst (v := (-1)) cx.1 cx.2.1 dX1_brings_11 (by decide) ?_
    refine lv_icmp_eq (tgt := 32) cx.1 cx.2.1 dX1_brings_12 (by decide) (fun c_10 => ?_) (fun c_10 => ?_)
    · refine lv_iconst (v := 0) cx.1 cx.2.1 dX1_brings_32 (by decide) ?_
      exact k_top (by first | (simp [mBrings, mS3, c_10, mDue, b2i]; done) | (simp [mBrings, mS3, mDue, b2i]; exact fun h => absurd c_10 h)) (hj33 _ _ hI)
    · refine lv_aload_n cx.1 cx.2.1 dX1_brings_15 rfl (lv_at hl 0 rfl) ?_
      refine lv_aload_n cx.1 cx.2.1 dX1_brings_16 rfl (lv_at hl 0 rfl) ?_
      refine mg_0 cx hI dX1_brings_17 ?_
      refine lv_iload_n cx.1 cx.2.1 dX1_brings_20 rfl (lv_at hl 1 rfl) ?_
      refine ma_O cx hI hk dX1_brings_21 ?_
      refine mc_i 1 cx (hl.1.trans hml.symm) (kX1_suits l D ca ad v (mO v key.toNatClampNeg)) hI wk_504 wk_501 wk_503 wq_22 ⟨rfl, by decide +kernel⟩ rfl ⟨rfl, rfl⟩ ⟨Nat.le_of_ble_eq_true rfl, Nat.le_of_ble_eq_true rfl⟩ (Nat.le_of_ble_eq_true rfl) dX1_brings_22 ⟨Nat.zero_le _, Nat.zero_le _⟩ rfl (fun H locs hI => ?_)
      refine kb_eq (tgt := 32) cx dX1_brings_25 (by decide) (fun c_11 => ?_) (fun c_11 => ?_)
      · refine lv_iconst (v := 0) cx.1 cx.2.1 dX1_brings_32 (by decide) ?_
        exact k_top (by first | (simp [mBrings, mS3, c_10, c_11, mDue, b2i]; done) | (simp [mBrings, mS3, c_10, mDue, b2i]; exact fun h => absurd c_11 h)) (hj33 _ _ hI)
      · refine lv_iconst (v := 1) cx.1 cx.2.1 dX1_brings_28 (by decide) ?_
        refine lv_goto (tgt := 33) cx.1 cx.2.1 dX1_brings_29 (by decide) ?_
        exact k_top (by first | (simp [mBrings, mS3, c_10, c_11, mDue, b2i]; done) | (simp [mBrings, mS3, c_10, mDue, b2i]; exact fun h => absurd c_11 h)) (hj33 _ _ hI)
set_option maxHeartbeats 4000000 in
set_option maxRecDepth 100000 in
theorem kX1_wrote (l : Launch) (D : va_G) (ca : Nat → ClassId) (ad : Nat → Nat) (v : MS) (key : Int32) (hk : vp_in key 40) (h0 : vp_in (mc v) 2000) : CM l yX1_wrote cX1_wrote 2 none (KR 3 66) D ca (mw ad ca v) [.ref (ad 0), .int key] none (mw ad ca (mWrote v key)) := by
  refine CM.of (by decide) (Nat.le_of_ble_eq_true rfl) ?_
  intro p e s m below meth c A ls cx hml hr hlk hI hl
  have hl : lv_has ls 2 [(0, .ref (ad 0)), (1, .int key)] := hl
  refine lv_aload_n cx.1 cx.2.1 dX1_wrote_0 rfl (lv_at hl 0 rfl) ?_
  refine mg_4 cx hI dX1_wrote_1 ?_
  refine lv_iconst (v := 1) cx.1 cx.2.1 dX1_wrote_4 (by decide) ?_
  refine lv_icmp_ne (tgt := 31) cx.1 cx.2.1 dX1_wrote_5 (by decide) (fun c_1 => ?_) (fun c_1 => ?_)
  · refine lv_aload_n cx.1 cx.2.1 dX1_wrote_31 rfl (lv_at hl 0 rfl) ?_
    refine mg_4 cx hI dX1_wrote_32 ?_
    refine lv_iconst (v := 2) cx.1 cx.2.1 dX1_wrote_35 (by decide) ?_
    refine lv_icmp_ne (tgt := 44) cx.1 cx.2.1 dX1_wrote_36 (by decide) (fun c_2 => ?_) (fun c_2 => ?_)
    · exact ke_v cx hr hlk hI (Nat.zero_le _) (Nat.zero_le _) dX1_wrote_44 rfl (congrArg (mw ad ca) (by simp [mWrote, mNote, c_1, c_2]))
    · refine lv_aload_n cx.1 cx.2.1 dX1_wrote_39 rfl (lv_at hl 0 rfl) ?_
      refine lv_iload_n cx.1 cx.2.1 dX1_wrote_40 rfl (lv_at hl 1 rfl) ?_
      refine mc_v 1 cx (hl.1.trans hml.symm) (kX1_brings l D ca ad v key hk) hI wk_524 wk_521 wk_523 wq_27 ⟨rfl, by decide +kernel⟩ rfl ⟨rfl, rfl⟩ ⟨Nat.le_of_ble_eq_true rfl, Nat.le_of_ble_eq_true rfl⟩ (Nat.le_of_ble_eq_true rfl) dX1_wrote_41 ⟨Nat.zero_le _, Nat.zero_le _⟩ rfl (fun H locs hI => ?_)
      exact ke_v cx hr hlk hI (Nat.zero_le _) (Nat.zero_le _) dX1_wrote_44 rfl (congrArg (mw ad ca) (by simp [mWrote, mNote, c_1, c_2]))
  · refine lv_aload_n cx.1 cx.2.1 dX1_wrote_8 rfl (lv_at hl 0 rfl) ?_
    refine mg_11 cx hI dX1_wrote_9 ?_
    refine lv_aload_n cx.1 cx.2.1 dX1_wrote_12 rfl (lv_at hl 0 rfl) ?_
    refine mg_10 cx hI dX1_wrote_13 ?_
    refine lv_iload_n cx.1 cx.2.1 dX1_wrote_16 rfl (lv_at hl 1 rfl) ?_
    refine ms_N cx hI h0 dX1_wrote_17 (fun H locs hI => ?_)
    refine lv_aload_n cx.1 cx.2.1 dX1_wrote_18 rfl (lv_at hl 0 rfl) ?_
    refine lv_dup cx.1 cx.2.1 dX1_wrote_19 rfl ?_
    refine mg_10 cx hI dX1_wrote_20 ?_
    refine lv_iconst (v := 1) cx.1 cx.2.1 dX1_wrote_23 (by decide) ?_
    refine lv_iadd cx.1 cx.2.1 dX1_wrote_24 ?_
    refine mp_10 cx hI dX1_wrote_25 (fun H locs hI => ?_)
    refine lv_goto (tgt := 44) cx.1 cx.2.1 dX1_wrote_28 (by decide) ?_
    exact ke_v cx hr hlk hI (Nat.zero_le _) (Nat.zero_le _) dX1_wrote_44 rfl (congrArg (mw ad ca) (by simp [mWrote, mNote, c_1]))
set_option maxHeartbeats 4000000 in
set_option maxRecDepth 100000 in
theorem kX1_writes (l : Launch) (D : va_G) (ca : Nat → ClassId) (ad : Nat → Nat) (v : MS) (key row : Int32) (hk : vp_in key 40) (h0 : vp_in (mc v) 2000) : CM l yX1_writes cX1_writes 3 none (KR 4 87) D ca (mw ad ca v) [.ref (ad 0), .int key, .int row] none (mw ad ca (mWrites v key row)) := by
  refine CM.of (by decide) (Nat.le_of_ble_eq_true rfl) ?_
  intro p e s m below meth c A ls cx hml hr hlk hI hl
  have hl : lv_has ls 3 [(0, .ref (ad 0)), (1, .int key), (2, .int row)] := hl
  refine lv_aload_n cx.1 cx.2.1 dX1_writes_0 rfl (lv_at hl 0 rfl) ?_
  refine mg_0 cx hI dX1_writes_1 ?_
  refine lv_iload_n cx.1 cx.2.1 dX1_writes_4 rfl (lv_at hl 1 rfl) ?_
  refine lv_iload_n cx.1 cx.2.1 dX1_writes_5 rfl (lv_at hl 2 rfl) ?_
  refine ms_O cx hI hk dX1_writes_6 (fun H locs hI => ?_)
  refine lv_aload_n cx.1 cx.2.1 dX1_writes_7 rfl (lv_at hl 0 rfl) ?_
  refine lv_iload_n cx.1 cx.2.1 dX1_writes_8 rfl (lv_at hl 1 rfl) ?_
  refine mc_v 1 cx (hl.1.trans hml.symm) (kX1_wrote l D ca ad (mUO v (upd (mO v) key.toNatClampNeg row)) key hk h0) hI wk_520 wk_517 wk_519 wq_26 ⟨rfl, by decide +kernel⟩ rfl ⟨rfl, rfl⟩ ⟨Nat.le_of_ble_eq_true rfl, Nat.le_of_ble_eq_true rfl⟩ (Nat.le_of_ble_eq_true rfl) dX1_writes_9 ⟨Nat.zero_le _, Nat.zero_le _⟩ rfl (fun H locs hI => ?_)
  exact ke_v cx hr hlk hI (Nat.zero_le _) (Nat.zero_le _) dX1_writes_12 rfl (congrArg (mw ad ca) (by simp [mWrites]))
set_option maxHeartbeats 4000000 in
set_option maxRecDepth 100000 in
theorem kX1_faultOf (l : Launch) (D : va_G) (ca : Nat → ClassId) (ad : Nat → Nat) (v : MS) (key a b : Int32) : CM l yX1_faultOf cX1_faultOf 5 (some .int) (KR 2 42) D ca (mw ad ca v) [.ref (ad 0), .int key, .int a, .int b] (some (.int (mFault v key a b))) (mw ad ca v) := by
  refine CM.of (by decide) (Nat.le_of_ble_eq_true rfl) ?_
  intro p e s m below meth c A ls cx hml hr hlk hI hl
  have hl : lv_has ls 5 [(0, .ref (ad 0)), (1, .int key), (2, .int a), (3, .int b)] := hl
  refine k_join (D := D) (A := A) 27 (mw ad ca v) [.int (b2i (xWithin a 0 999 && xWithin b 0 999))] (fun H locs hI => ?_) (fun hj27 => ?_)
  · refine lv_istore (lv' := [(4, .int (b2i (xWithin a 0 999 && xWithin b 0 999))), (0, .ref (ad 0)), (1, .int key), (2, .int a), (3, .int b)]) cx.1 cx.2.1 dX1_faultOf_27 hl (by decide) rfl (fun ls hl => ?_)
    refine lv_iload_n cx.1 cx.2.1 dX1_faultOf_29 rfl (lv_at hl 2 rfl) ?_
    refine ks_i 1 cx (hl.1.trans hml.symm) (kX1_isKey l D ca key) hI wk_500 wk_498 wk_499 wk_3 ⟨by decide, by decide, by decide +kernel⟩ rfl ⟨rfl, rfl⟩ ⟨Nat.le_of_ble_eq_true rfl, Nat.le_of_ble_eq_true rfl⟩ (Nat.le_of_ble_eq_true rfl) dX1_faultOf_30 ⟨Nat.zero_le _, Nat.zero_le _⟩ rfl (fun H locs hI => ?_)
    refine kb_ne (tgt := 40) cx dX1_faultOf_33 (by decide) (fun c_1 => ?_) (fun c_1 => ?_)
    · refine lv_iload cx.1 cx.2.1 dX1_faultOf_40 (lv_at hl 0 rfl) ?_
      refine kb_eq (tgt := 67) cx dX1_faultOf_42 (by decide) (fun c_2 => ?_) (fun c_2 => ?_)
      · refine lv_iconst (v := 2) cx.1 cx.2.1 dX1_faultOf_67 (by decide) ?_
        refine lv_goto (tgt := 72) cx.1 cx.2.1 dX1_faultOf_68 (by decide) ?_
        exact ke_i cx hr hlk hI (Nat.zero_le _) (Nat.zero_le _) dX1_faultOf_72 (congrArg (fun z => some (Value.int z)) (by simp [mFault, c_1, c_2])) rfl
      · refine lv_aload_n cx.1 cx.2.1 dX1_faultOf_45 rfl (lv_at hl 1 rfl) ?_
        refine mg_4 cx hI dX1_faultOf_46 ?_
        refine lv_iconst (v := 2) cx.1 cx.2.1 dX1_faultOf_49 (by decide) ?_
        refine lv_icmp_ne (tgt := 71) cx.1 cx.2.1 dX1_faultOf_50 (by decide) (fun c_3 => ?_) (fun c_3 => ?_)
        · refine lv_iconst (v := 0) cx.1 cx.2.1 dX1_faultOf_71 (by decide) ?_
          exact ke_i cx hr hlk hI (Nat.zero_le _) (Nat.zero_le _) dX1_faultOf_72 (congrArg (fun z => some (Value.int z)) (by simp [mFault, c_1, c_2, c_3])) rfl
        · refine lv_aload_n cx.1 cx.2.1 dX1_faultOf_53 rfl (lv_at hl 1 rfl) ?_
          refine lv_sipush (v := 1000) cx.1 cx.2.1 dX1_faultOf_54 (by decide) ?_
          refine lv_iload_n cx.1 cx.2.1 dX1_faultOf_57 rfl (lv_at hl 3 rfl) ?_
          refine lv_imul cx.1 cx.2.1 dX1_faultOf_58 ?_
          refine lv_iload_n cx.1 cx.2.1 dX1_faultOf_59 rfl (lv_at hl 4 rfl) ?_
          refine lv_iadd cx.1 cx.2.1 dX1_faultOf_60 ?_
          refine mc_i 1 cx (hl.1.trans hml.symm) (kX1_suits l D ca ad v ((1000 * a) + b)) hI wk_504 wk_501 wk_503 wq_22 ⟨rfl, by decide +kernel⟩ rfl ⟨rfl, rfl⟩ ⟨Nat.le_of_ble_eq_true rfl, Nat.le_of_ble_eq_true rfl⟩ (Nat.le_of_ble_eq_true rfl) dX1_faultOf_61 ⟨Nat.zero_le _, Nat.zero_le _⟩ rfl (fun H locs hI => ?_)
          refine kb_ne (tgt := 71) cx dX1_faultOf_64 (by decide) (fun c_4 => ?_) (fun c_4 => ?_)
          · refine lv_iconst (v := 0) cx.1 cx.2.1 dX1_faultOf_71 (by decide) ?_
            exact ke_i cx hr hlk hI (Nat.zero_le _) (Nat.zero_le _) dX1_faultOf_72 (congrArg (fun z => some (Value.int z)) (by simp [mFault, c_1, c_2, c_3, c_4])) rfl
          · refine lv_iconst (v := 2) cx.1 cx.2.1 dX1_faultOf_67 (by decide) ?_
            refine lv_goto (tgt := 72) cx.1 cx.2.1 dX1_faultOf_68 (by decide) ?_
            exact ke_i cx hr hlk hI (Nat.zero_le _) (Nat.zero_le _) dX1_faultOf_72 (congrArg (fun z => some (Value.int z)) (by simp [mFault, c_1, c_2, c_3, c_4])) rfl
    · refine lv_iconst (v := 1) cx.1 cx.2.1 dX1_faultOf_36 (by decide) ?_
      refine lv_goto (tgt := 72) cx.1 cx.2.1 dX1_faultOf_37 (by decide) ?_
      exact ke_i cx hr hlk hI (Nat.zero_le _) (Nat.zero_le _) dX1_faultOf_72 (congrArg (fun z => some (Value.int z)) (by simp [mFault, c_1])) rfl
  ·
    refine lv_iload_n cx.1 cx.2.1 dX1_faultOf_0 rfl (lv_at hl 2 rfl) ?_
    refine lv_iconst (v := 0) cx.1 cx.2.1 dX1_faultOf_1 (by decide) ?_
    refine lv_sipush (v := 999) cx.1 cx.2.1 dX1_faultOf_2 (by decide) ?_
    refine ks_i 3 cx (hl.1.trans hml.symm) (kX1_isIn l D ca a 0 999) hI wk_497 wk_495 wk_496 wk_3 ⟨by decide, by decide, by decide +kernel⟩ rfl ⟨rfl, rfl⟩ ⟨Nat.le_of_ble_eq_true rfl, Nat.le_of_ble_eq_true rfl⟩ (Nat.le_of_ble_eq_true rfl) dX1_faultOf_5 ⟨Nat.zero_le _, Nat.zero_le _⟩ rfl (fun H locs hI => ?_)
    refine kb_eq (tgt := 26) cx dX1_faultOf_8 (by decide) (fun c_5 => ?_) (fun c_5 => ?_)
    · refine lv_iconst (v := 0) cx.1 cx.2.1 dX1_faultOf_26 (by decide) ?_
      exact k_top (by first | (simp [mFault, c_5, b2i]; done) | (simp [mFault, b2i]; exact fun h => absurd c_5 h)) (hj27 _ _ hI)
    · refine lv_iload_n cx.1 cx.2.1 dX1_faultOf_11 rfl (lv_at hl 3 rfl) ?_
      refine lv_iconst (v := 0) cx.1 cx.2.1 dX1_faultOf_12 (by decide) ?_
      refine lv_sipush (v := 999) cx.1 cx.2.1 dX1_faultOf_13 (by decide) ?_
      refine ks_i 3 cx (hl.1.trans hml.symm) (kX1_isIn l D ca b 0 999) hI wk_497 wk_495 wk_496 wk_3 ⟨by decide, by decide, by decide +kernel⟩ rfl ⟨rfl, rfl⟩ ⟨Nat.le_of_ble_eq_true rfl, Nat.le_of_ble_eq_true rfl⟩ (Nat.le_of_ble_eq_true rfl) dX1_faultOf_16 ⟨Nat.zero_le _, Nat.zero_le _⟩ rfl (fun H locs hI => ?_)
      refine kb_eq (tgt := 26) cx dX1_faultOf_19 (by decide) (fun c_6 => ?_) (fun c_6 => ?_)
      · refine lv_iconst (v := 0) cx.1 cx.2.1 dX1_faultOf_26 (by decide) ?_
        exact k_top (by first | (simp [mFault, c_5, c_6, b2i]; done) | (simp [mFault, c_5, b2i]; exact fun h => absurd c_6 h)) (hj27 _ _ hI)
      · refine lv_iconst (v := 1) cx.1 cx.2.1 dX1_faultOf_22 (by decide) ?_
        refine lv_goto (tgt := 27) cx.1 cx.2.1 dX1_faultOf_23 (by decide) ?_
        exact k_top (by first | (simp [mFault, c_5, c_6, b2i]; done) | (simp [mFault, c_5, b2i]; exact fun h => absurd c_6 h)) (hj27 _ _ hI)

set_option maxHeartbeats 4000000 in
set_option maxRecDepth 100000 in
theorem kX0_isWithin (l : Launch) (D : va_G) (ca : Nat → ClassId) (x a b : Int32) : CM l yX0_isWithin cX0_isWithin 3 (some .boolean) (KR 0 0) D ca [] [.int x, .int a, .int b] (some (.int (b2i (xWithin x a b)))) [] := by
  refine CM.of (by decide) (Nat.le_of_ble_eq_true rfl) ?_
  intro p e s m below meth c A ls cx hml hr hlk hI hl
  have hl : lv_has ls 3 [(0, .int x), (1, .int a), (2, .int b)] := hl
  refine lv_iload_n cx.1 cx.2.1 dX0_isWithin_0 rfl (lv_at hl 0 rfl) ?_
  refine lv_iload_n cx.1 cx.2.1 dX0_isWithin_1 rfl (lv_at hl 1 rfl) ?_
  refine lv_icmp_lt (tgt := 14) cx.1 cx.2.1 dX0_isWithin_2 (by decide) (fun c_1 => ?_) (fun c_1 => ?_)
  · refine lv_iconst (v := 0) cx.1 cx.2.1 dX0_isWithin_14 (by decide) ?_
    exact ke_z cx hr hlk hI (Nat.zero_le _) (Nat.zero_le _) dX0_isWithin_15 rfl (congrArg (fun z => some (Value.int z)) (by simp [xWithin, b2i, c_1])) rfl
  · refine lv_iload_n cx.1 cx.2.1 dX0_isWithin_5 rfl (lv_at hl 0 rfl) ?_
    refine lv_iload_n cx.1 cx.2.1 dX0_isWithin_6 rfl (lv_at hl 2 rfl) ?_
    refine lv_icmp_gt (tgt := 14) cx.1 cx.2.1 dX0_isWithin_7 (by decide) (fun c_2 => ?_) (fun c_2 => ?_)
    · refine lv_iconst (v := 0) cx.1 cx.2.1 dX0_isWithin_14 (by decide) ?_
      exact ke_z cx hr hlk hI (Nat.zero_le _) (Nat.zero_le _) dX0_isWithin_15 rfl (congrArg (fun z => some (Value.int z)) (by simp [xWithin, b2i, c_1, c_2])) rfl
    · refine lv_iconst (v := 1) cx.1 cx.2.1 dX0_isWithin_10 (by decide) ?_
      refine lv_goto (tgt := 15) cx.1 cx.2.1 dX0_isWithin_11 (by decide) ?_
      exact ke_z cx hr hlk hI (Nat.zero_le _) (Nat.zero_le _) dX0_isWithin_15 rfl (congrArg (fun z => some (Value.int z)) (by simp [xWithin, b2i, c_1, c_2])) rfl
set_option maxHeartbeats 4000000 in
set_option maxRecDepth 100000 in
theorem kX0_isKey (l : Launch) (D : va_G) (ca : Nat → ClassId) (key : Int32) : CM l yX0_isKey cX0_isKey 1 (some .boolean) (KR 1 22) D ca [] [.int key] (some (.int (b2i (xWithin key 0 39)))) [] := by
  refine CM.of (by decide) (Nat.le_of_ble_eq_true rfl) ?_
  intro p e s m below meth c A ls cx hml hr hlk hI hl
  have hl : lv_has ls 1 [(0, .int key)] := hl
  refine lv_iload_n cx.1 cx.2.1 dX0_isKey_0 rfl (lv_at hl 0 rfl) ?_
  refine lv_iconst (v := 0) cx.1 cx.2.1 dX0_isKey_1 (by decide) ?_
  refine lv_bipush (v := 39) cx.1 cx.2.1 dX0_isKey_2 (by decide) ?_
  refine ks_i 3 cx (hl.1.trans hml.symm) (kX0_isWithin l D ca key 0 39) hI wk_92 wk_90 wk_91 wk_1 ⟨by decide, by decide, by decide +kernel⟩ rfl ⟨rfl, rfl⟩ ⟨Nat.le_of_ble_eq_true rfl, Nat.le_of_ble_eq_true rfl⟩ (Nat.le_of_ble_eq_true rfl) dX0_isKey_4 ⟨Nat.zero_le _, Nat.zero_le _⟩ rfl (fun H locs hI => ?_)
  exact ke_z cx hr hlk hI (Nat.zero_le _) (Nat.zero_le _) dX0_isKey_7 (b2i_nar _) rfl rfl
set_option maxHeartbeats 4000000 in
set_option maxRecDepth 100000 in
theorem kX0_isColumn (l : Launch) (D : va_G) (ca : Nat → ClassId) (col : Int32) : CM l yX0_isColumn cX0_isColumn 1 (some .boolean) (KR 1 22) D ca [] [.int col] (some (.int (b2i (xWithin col 0 2)))) [] := by
  refine CM.of (by decide) (Nat.le_of_ble_eq_true rfl) ?_
  intro p e s m below meth c A ls cx hml hr hlk hI hl
  have hl : lv_has ls 1 [(0, .int col)] := hl
  refine lv_iload_n cx.1 cx.2.1 dX0_isColumn_0 rfl (lv_at hl 0 rfl) ?_
  refine lv_iconst (v := 0) cx.1 cx.2.1 dX0_isColumn_1 (by decide) ?_
  refine lv_iconst (v := 2) cx.1 cx.2.1 dX0_isColumn_2 (by decide) ?_
  refine ks_i 3 cx (hl.1.trans hml.symm) (kX0_isWithin l D ca col 0 2) hI wk_92 wk_90 wk_91 wk_1 ⟨by decide, by decide, by decide +kernel⟩ rfl ⟨rfl, rfl⟩ ⟨Nat.le_of_ble_eq_true rfl, Nat.le_of_ble_eq_true rfl⟩ (Nat.le_of_ble_eq_true rfl) dX0_isColumn_3 ⟨Nat.zero_le _, Nat.zero_le _⟩ rfl (fun H locs hI => ?_)
  exact ke_z cx hr hlk hI (Nat.zero_le _) (Nat.zero_le _) dX0_isColumn_6 (b2i_nar _) rfl rfl
set_option maxHeartbeats 4000000 in
set_option maxRecDepth 100000 in
theorem kX0_fits (l : Launch) (D : va_G) (ca : Nat → ClassId) (ad : Nat → Nat) (v : XS) (b : Int32) : CM l yX0_fits cX0_fits 2 (some .boolean) (KR 0 0) D ca (xw ad ca v) [.ref (ad 0), .int b] (some (.int (b2i (xFits v b)))) (xw ad ca v) := by
  refine CM.of (by decide) (Nat.le_of_ble_eq_true rfl) ?_
  intro p e s m below meth c A ls cx hml hr hlk hI hl
  have hl : lv_has ls 2 [(0, .ref (ad 0)), (1, .int b)] := hl
  refine lv_aload_n cx.1 cx.2.1 dX0_fits_0 rfl (lv_at hl 0 rfl) ?_
  refine xg_8 cx hI dX0_fits_1 ?_
  refine lv_iconst (v := 1) cx.1 cx.2.1 dX0_fits_4 (by decide) ?_
  refine lv_icmp_ne (tgt := 16) cx.1 cx.2.1 dX0_fits_5 (by decide) (fun c_1 => ?_) (fun c_1 => ?_)
  · refine lv_iconst (v := 1) cx.1 cx.2.1 dX0_fits_16 (by decide) ?_
    refine lv_goto (tgt := 21) cx.1 cx.2.1 dX0_fits_17 (by decide) ?_
    exact ke_z cx hr hlk hI (Nat.zero_le _) (Nat.zero_le _) dX0_fits_21 rfl (congrArg (fun z => some (Value.int z)) (by simp [xFits, b2i, c_1])) rfl
  · refine lv_iload_n cx.1 cx.2.1 dX0_fits_8 rfl (lv_at hl 1 rfl) ?_
    refine lv_aload_n cx.1 cx.2.1 dX0_fits_9 rfl (lv_at hl 0 rfl) ?_
    refine xg_9 cx hI dX0_fits_10 ?_
    refine lv_icmp_gt (tgt := 20) cx.1 cx.2.1 dX0_fits_13 (by decide) (fun c_2 => ?_) (fun c_2 => ?_)
    · refine lv_iconst (v := 0) cx.1 cx.2.1 dX0_fits_20 (by decide) ?_
      exact ke_z cx hr hlk hI (Nat.zero_le _) (Nat.zero_le _) dX0_fits_21 rfl (congrArg (fun z => some (Value.int z)) (by simp [xFits, b2i, c_1, c_2])) rfl
    · refine lv_iconst (v := 1) cx.1 cx.2.1 dX0_fits_16 (by decide) ?_
      refine lv_goto (tgt := 21) cx.1 cx.2.1 dX0_fits_17 (by decide) ?_
      exact ke_z cx hr hlk hI (Nat.zero_le _) (Nat.zero_le _) dX0_fits_21 rfl (congrArg (fun z => some (Value.int z)) (by simp [xFits, b2i, c_1, c_2])) rfl
set_option maxHeartbeats 4000000 in
set_option maxRecDepth 100000 in
theorem kX0_canBeWritten (l : Launch) (D : va_G) (ca : Nat → ClassId) (ad : Nat → Nat) (v : XS) (a b : Int32) : CM l yX0_canBeWritten cX0_canBeWritten 3 (some .boolean) (KR 1 22) D ca (xw ad ca v) [.ref (ad 0), .int a, .int b] (some (.int (b2i (xCbw v a b)))) (xw ad ca v) := by
  refine CM.of (by decide) (Nat.le_of_ble_eq_true rfl) ?_
  intro p e s m below meth c A ls cx hml hr hlk hI hl
  have hl : lv_has ls 3 [(0, .ref (ad 0)), (1, .int a), (2, .int b)] := hl
  refine lv_iload_n cx.1 cx.2.1 dX0_canBeWritten_0 rfl (lv_at hl 1 rfl) ?_
  refine lv_iconst (v := 0) cx.1 cx.2.1 dX0_canBeWritten_1 (by decide) ?_
  refine lv_sipush (v := 999) cx.1 cx.2.1 dX0_canBeWritten_2 (by decide) ?_
  refine ks_i 3 cx (hl.1.trans hml.symm) (kX0_isWithin l D ca a 0 999) hI wk_92 wk_90 wk_91 wk_1 ⟨by decide, by decide, by decide +kernel⟩ rfl ⟨rfl, rfl⟩ ⟨Nat.le_of_ble_eq_true rfl, Nat.le_of_ble_eq_true rfl⟩ (Nat.le_of_ble_eq_true rfl) dX0_canBeWritten_5 ⟨Nat.zero_le _, Nat.zero_le _⟩ rfl (fun H locs hI => ?_)
  refine kb_eq (tgt := 42) cx dX0_canBeWritten_8 (by decide) (fun c_1 => ?_) (fun c_1 => ?_)
  · refine lv_iconst (v := 0) cx.1 cx.2.1 dX0_canBeWritten_42 (by decide) ?_
    exact ke_z cx hr hlk hI (Nat.zero_le _) (Nat.zero_le _) dX0_canBeWritten_43 rfl (congrArg (fun z => some (Value.int z)) (by simp [xCbw, b2i, c_1])) rfl
  · refine lv_iload_n cx.1 cx.2.1 dX0_canBeWritten_11 rfl (lv_at hl 2 rfl) ?_
    refine lv_iconst (v := 0) cx.1 cx.2.1 dX0_canBeWritten_12 (by decide) ?_
    refine lv_sipush (v := 999) cx.1 cx.2.1 dX0_canBeWritten_13 (by decide) ?_
    refine ks_i 3 cx (hl.1.trans hml.symm) (kX0_isWithin l D ca b 0 999) hI wk_92 wk_90 wk_91 wk_1 ⟨by decide, by decide, by decide +kernel⟩ rfl ⟨rfl, rfl⟩ ⟨Nat.le_of_ble_eq_true rfl, Nat.le_of_ble_eq_true rfl⟩ (Nat.le_of_ble_eq_true rfl) dX0_canBeWritten_16 ⟨Nat.zero_le _, Nat.zero_le _⟩ rfl (fun H locs hI => ?_)
    refine kb_eq (tgt := 42) cx dX0_canBeWritten_19 (by decide) (fun c_2 => ?_) (fun c_2 => ?_)
    · refine lv_iconst (v := 0) cx.1 cx.2.1 dX0_canBeWritten_42 (by decide) ?_
      exact ke_z cx hr hlk hI (Nat.zero_le _) (Nat.zero_le _) dX0_canBeWritten_43 rfl (congrArg (fun z => some (Value.int z)) (by simp [xCbw, b2i, c_1, c_2])) rfl
    · refine lv_aload_n cx.1 cx.2.1 dX0_canBeWritten_22 rfl (lv_at hl 0 rfl) ?_
      refine xg_6 cx hI dX0_canBeWritten_23 ?_
      refine lv_iconst (v := 2) cx.1 cx.2.1 dX0_canBeWritten_26 (by decide) ?_
      refine lv_icmp_ne (tgt := 38) cx.1 cx.2.1 dX0_canBeWritten_27 (by decide) (fun c_3 => ?_) (fun c_3 => ?_)
      · refine lv_iconst (v := 1) cx.1 cx.2.1 dX0_canBeWritten_38 (by decide) ?_
        refine lv_goto (tgt := 43) cx.1 cx.2.1 dX0_canBeWritten_39 (by decide) ?_
        exact ke_z cx hr hlk hI (Nat.zero_le _) (Nat.zero_le _) dX0_canBeWritten_43 rfl (congrArg (fun z => some (Value.int z)) (by simp [xCbw, b2i, c_1, c_2, c_3])) rfl
      · refine lv_aload_n cx.1 cx.2.1 dX0_canBeWritten_30 rfl (lv_at hl 0 rfl) ?_
        refine lv_iload_n cx.1 cx.2.1 dX0_canBeWritten_31 rfl (lv_at hl 2 rfl) ?_
        refine xc_i 1 cx (hl.1.trans hml.symm) (kX0_fits l D ca ad v b) hI wk_195 wk_192 wk_194 wq_5 ⟨rfl, by decide +kernel⟩ rfl ⟨rfl, rfl⟩ ⟨Nat.le_of_ble_eq_true rfl, Nat.le_of_ble_eq_true rfl⟩ (Nat.le_of_ble_eq_true rfl) dX0_canBeWritten_32 ⟨Nat.zero_le _, Nat.zero_le _⟩ rfl (fun H locs hI => ?_)
        refine kb_eq (tgt := 42) cx dX0_canBeWritten_35 (by decide) (fun c_4 => ?_) (fun c_4 => ?_)
        · refine lv_iconst (v := 0) cx.1 cx.2.1 dX0_canBeWritten_42 (by decide) ?_
          exact ke_z cx hr hlk hI (Nat.zero_le _) (Nat.zero_le _) dX0_canBeWritten_43 rfl (congrArg (fun z => some (Value.int z)) (by simp [xCbw, b2i, c_1, c_2, c_3, c_4])) rfl
        · refine lv_iconst (v := 1) cx.1 cx.2.1 dX0_canBeWritten_38 (by decide) ?_
          refine lv_goto (tgt := 43) cx.1 cx.2.1 dX0_canBeWritten_39 (by decide) ?_
          exact ke_z cx hr hlk hI (Nat.zero_le _) (Nat.zero_le _) dX0_canBeWritten_43 rfl (congrArg (fun z => some (Value.int z)) (by simp [xCbw, b2i, c_1, c_2, c_3, c_4])) rfl
set_option maxHeartbeats 4000000 in
set_option maxRecDepth 100000 in
theorem kX0_isInOld (l : Launch) (D : va_G) (ca : Nat → ClassId) (ad : Nat → Nat) (v : XS) (key : Int32) (hk : vp_in key 40) : CM l yX0_isInOld cX0_isInOld 2 (some .boolean) (KR 0 0) D ca (xw ad ca v) [.ref (ad 0), .int key] (some (.int (b2i (xOld v key)))) (xw ad ca v) := by
  refine CM.of (by decide) (Nat.le_of_ble_eq_true rfl) ?_
  intro p e s m below meth c A ls cx hml hr hlk hI hl
  have hl : lv_has ls 2 [(0, .ref (ad 0)), (1, .int key)] := hl
  refine lv_aload_n cx.1 cx.2.1 dX0_isInOld_0 rfl (lv_at hl 0 rfl) ?_
  refine xg_0 cx hI dX0_isInOld_1 ?_
  refine lv_iload_n cx.1 cx.2.1 dX0_isInOld_4 rfl (lv_at hl 1 rfl) ?_
  refine xa_A cx hI hk dX0_isInOld_5 ?_
  refine lv_iconst (v := (-1)) cx.1 cx.2.1 dX0_isInOld_6 (by decide) ?_
  refine lv_icmp_eq (tgt := 14) cx.1 cx.2.1 dX0_isInOld_7 (by decide) (fun c_1 => ?_) (fun c_1 => ?_)
  · refine lv_iconst (v := 0) cx.1 cx.2.1 dX0_isInOld_14 (by decide) ?_
    exact ke_z cx hr hlk hI (Nat.zero_le _) (Nat.zero_le _) dX0_isInOld_15 rfl (congrArg (fun z => some (Value.int z)) (by simp [xOld, b2i, c_1])) rfl
  · refine lv_iconst (v := 1) cx.1 cx.2.1 dX0_isInOld_10 (by decide) ?_
    refine lv_goto (tgt := 15) cx.1 cx.2.1 dX0_isInOld_11 (by decide) ?_
    exact ke_z cx hr hlk hI (Nat.zero_le _) (Nat.zero_le _) dX0_isInOld_15 rfl (congrArg (fun z => some (Value.int z)) (by simp [xOld, b2i, c_1])) rfl
set_option maxHeartbeats 4000000 in
set_option maxRecDepth 100000 in
theorem kX0_isInShadow (l : Launch) (D : va_G) (ca : Nat → ClassId) (ad : Nat → Nat) (v : XS) (key : Int32) (hk : vp_in key 40) : CM l yX0_isInShadow cX0_isInShadow 2 (some .boolean) (KR 0 0) D ca (xw ad ca v) [.ref (ad 0), .int key] (some (.int (b2i (xSh v key)))) (xw ad ca v) := by
  refine CM.of (by decide) (Nat.le_of_ble_eq_true rfl) ?_
  intro p e s m below meth c A ls cx hml hr hlk hI hl
  have hl : lv_has ls 2 [(0, .ref (ad 0)), (1, .int key)] := hl
  refine lv_aload_n cx.1 cx.2.1 dX0_isInShadow_0 rfl (lv_at hl 0 rfl) ?_
  refine xg_2 cx hI dX0_isInShadow_1 ?_
  refine lv_iconst (v := 0) cx.1 cx.2.1 dX0_isInShadow_4 (by decide) ?_
  refine xa_cols cx hI (vp0 (by decide) (by decide)) dX0_isInShadow_5 ?_
  refine lv_iload_n cx.1 cx.2.1 dX0_isInShadow_6 rfl (lv_at hl 1 rfl) ?_
  refine xa_col (j := 0) cx hI (vp0 (by decide) (by decide)) rfl hk dX0_isInShadow_7 ?_
  refine lv_iconst (v := (-1)) cx.1 cx.2.1 dX0_isInShadow_8 (by decide) ?_
  refine lv_icmp_eq (tgt := 16) cx.1 cx.2.1 dX0_isInShadow_9 (by decide) (fun c_1 => ?_) (fun c_1 => ?_)
  · refine lv_iconst (v := 0) cx.1 cx.2.1 dX0_isInShadow_16 (by decide) ?_
    exact ke_z cx hr hlk hI (Nat.zero_le _) (Nat.zero_le _) dX0_isInShadow_17 rfl (congrArg (fun z => some (Value.int z)) (by simp [xSh, b2i, c_1])) rfl
  · refine lv_iconst (v := 1) cx.1 cx.2.1 dX0_isInShadow_12 (by decide) ?_
    refine lv_goto (tgt := 17) cx.1 cx.2.1 dX0_isInShadow_13 (by decide) ?_
    exact ke_z cx hr hlk hI (Nat.zero_le _) (Nat.zero_le _) dX0_isInShadow_17 rfl (congrArg (fun z => some (Value.int z)) (by simp [xSh, b2i, c_1])) rfl
set_option maxHeartbeats 4000000 in
set_option maxRecDepth 100000 in
theorem kX0_isSeen (l : Launch) (D : va_G) (ca : Nat → ClassId) (ad : Nat → Nat) (v : XS) (key : Int32) (hk : vp_in key 40) : CM l yX0_isSeen cX0_isSeen 2 (some .boolean) (KR 1 21) D ca (xw ad ca v) [.ref (ad 0), .int key] (some (.int (b2i (xSeen v key)))) (xw ad ca v) := by
  refine CM.of (by decide) (Nat.le_of_ble_eq_true rfl) ?_
  intro p e s m below meth c A ls cx hml hr hlk hI hl
  have hl : lv_has ls 2 [(0, .ref (ad 0)), (1, .int key)] := hl
  refine lv_aload_n cx.1 cx.2.1 dX0_isSeen_0 rfl (lv_at hl 0 rfl) ?_
  refine lv_iload_n cx.1 cx.2.1 dX0_isSeen_1 rfl (lv_at hl 1 rfl) ?_
  refine xc_i 1 cx (hl.1.trans hml.symm) (kX0_isInOld l D ca ad v key hk) hI wk_191 wk_188 wk_190 wq_4 ⟨rfl, by decide +kernel⟩ rfl ⟨rfl, rfl⟩ ⟨Nat.le_of_ble_eq_true rfl, Nat.le_of_ble_eq_true rfl⟩ (Nat.le_of_ble_eq_true rfl) dX0_isSeen_2 ⟨Nat.zero_le _, Nat.zero_le _⟩ rfl (fun H locs hI => ?_)
  refine kb_eq (tgt := 28) cx dX0_isSeen_5 (by decide) (fun c_1 => ?_) (fun c_1 => ?_)
  · refine lv_iconst (v := 0) cx.1 cx.2.1 dX0_isSeen_28 (by decide) ?_
    exact ke_z cx hr hlk hI (Nat.zero_le _) (Nat.zero_le _) dX0_isSeen_29 rfl (congrArg (fun z => some (Value.int z)) (by simp [xSeen, b2i, c_1])) rfl
  · refine lv_aload_n cx.1 cx.2.1 dX0_isSeen_8 rfl (lv_at hl 0 rfl) ?_
    refine xg_6 cx hI dX0_isSeen_9 ?_
    refine lv_iconst (v := 2) cx.1 cx.2.1 dX0_isSeen_12 (by decide) ?_
    refine lv_icmp_ne (tgt := 24) cx.1 cx.2.1 dX0_isSeen_13 (by decide) (fun c_2 => ?_) (fun c_2 => ?_)
    · refine lv_iconst (v := 1) cx.1 cx.2.1 dX0_isSeen_24 (by decide) ?_
      refine lv_goto (tgt := 29) cx.1 cx.2.1 dX0_isSeen_25 (by decide) ?_
      exact ke_z cx hr hlk hI (Nat.zero_le _) (Nat.zero_le _) dX0_isSeen_29 rfl (congrArg (fun z => some (Value.int z)) (by simp [xSeen, b2i, c_1, c_2])) rfl
    · refine lv_aload_n cx.1 cx.2.1 dX0_isSeen_16 rfl (lv_at hl 0 rfl) ?_
      refine lv_iload_n cx.1 cx.2.1 dX0_isSeen_17 rfl (lv_at hl 1 rfl) ?_
      refine xc_i 1 cx (hl.1.trans hml.symm) (kX0_isInShadow l D ca ad v key hk) hI wk_175 wk_172 wk_174 wq_1 ⟨rfl, by decide +kernel⟩ rfl ⟨rfl, rfl⟩ ⟨Nat.le_of_ble_eq_true rfl, Nat.le_of_ble_eq_true rfl⟩ (Nat.le_of_ble_eq_true rfl) dX0_isSeen_18 ⟨Nat.zero_le _, Nat.zero_le _⟩ rfl (fun H locs hI => ?_)
      refine kb_eq (tgt := 28) cx dX0_isSeen_21 (by decide) (fun c_3 => ?_) (fun c_3 => ?_)
      · refine lv_iconst (v := 0) cx.1 cx.2.1 dX0_isSeen_28 (by decide) ?_
        exact ke_z cx hr hlk hI (Nat.zero_le _) (Nat.zero_le _) dX0_isSeen_29 rfl (congrArg (fun z => some (Value.int z)) (by simp [xSeen, b2i, c_1, c_2, c_3])) rfl
      · refine lv_iconst (v := 1) cx.1 cx.2.1 dX0_isSeen_24 (by decide) ?_
        refine lv_goto (tgt := 29) cx.1 cx.2.1 dX0_isSeen_25 (by decide) ?_
        exact ke_z cx hr hlk hI (Nat.zero_le _) (Nat.zero_le _) dX0_isSeen_29 rfl (congrArg (fun z => some (Value.int z)) (by simp [xSeen, b2i, c_1, c_2, c_3])) rfl
set_option maxHeartbeats 4000000 in
set_option maxRecDepth 100000 in
theorem kX0_rowAsNumber (l : Launch) (D : va_G) (ca : Nat → ClassId) (ad : Nat → Nat) (v : XS) (key : Int32) (hk : vp_in key 40) : CM l yX0_rowAsNumber cX0_rowAsNumber 2 (some .int) (KR 0 0) D ca (xw ad ca v) [.ref (ad 0), .int key] (some (.int (xRow v key))) (xw ad ca v) := by
  refine CM.of (by decide) (Nat.le_of_ble_eq_true rfl) ?_
  intro p e s m below meth c A ls cx hml hr hlk hI hl
  have hl : lv_has ls 2 [(0, .ref (ad 0)), (1, .int key)] := hl
  refine lv_sipush (v := 1000) cx.1 cx.2.1 dX0_rowAsNumber_0 (by decide) ?_
  refine lv_aload_n cx.1 cx.2.1 dX0_rowAsNumber_3 rfl (lv_at hl 0 rfl) ?_
  refine xg_0 cx hI dX0_rowAsNumber_4 ?_
  refine lv_iload_n cx.1 cx.2.1 dX0_rowAsNumber_7 rfl (lv_at hl 1 rfl) ?_
  refine xa_A cx hI hk dX0_rowAsNumber_8 ?_
  refine lv_imul cx.1 cx.2.1 dX0_rowAsNumber_9 ?_
  refine lv_aload_n cx.1 cx.2.1 dX0_rowAsNumber_10 rfl (lv_at hl 0 rfl) ?_
  refine xg_1 cx hI dX0_rowAsNumber_11 ?_
  refine lv_iload_n cx.1 cx.2.1 dX0_rowAsNumber_14 rfl (lv_at hl 1 rfl) ?_
  refine xa_B cx hI hk dX0_rowAsNumber_15 ?_
  refine lv_iadd cx.1 cx.2.1 dX0_rowAsNumber_16 ?_
  exact ke_i cx hr hlk hI (Nat.zero_le _) (Nat.zero_le _) dX0_rowAsNumber_17 (congrArg (fun z => some (Value.int z)) (by simp [xRow])) rfl
set_option maxHeartbeats 4000000 in
set_option maxRecDepth 100000 in
theorem kX0_putRow (l : Launch) (D : va_G) (ca : Nat → ClassId) (ad : Nat → Nat) (v : XS) (key a b : Int32) (hk : vp_in key 40) : CM l yX0_putRow cX0_putRow 4 none (KR 0 0) D ca (xw ad ca v) [.ref (ad 0), .int key, .int a, .int b] none (xw ad ca (xPut v key a b)) := by
  refine CM.of (by decide) (Nat.le_of_ble_eq_true rfl) ?_
  intro p e s m below meth c A ls cx hml hr hlk hI hl
  have hl : lv_has ls 4 [(0, .ref (ad 0)), (1, .int key), (2, .int a), (3, .int b)] := hl
  refine lv_aload_n cx.1 cx.2.1 dX0_putRow_0 rfl (lv_at hl 0 rfl) ?_
  refine xg_0 cx hI dX0_putRow_1 ?_
  refine lv_iload_n cx.1 cx.2.1 dX0_putRow_4 rfl (lv_at hl 1 rfl) ?_
  refine lv_iload_n cx.1 cx.2.1 dX0_putRow_5 rfl (lv_at hl 2 rfl) ?_
  refine xs_A cx hI hk dX0_putRow_6 (fun H locs hI => ?_)
  refine lv_aload_n cx.1 cx.2.1 dX0_putRow_7 rfl (lv_at hl 0 rfl) ?_
  refine xg_1 cx hI dX0_putRow_8 ?_
  refine lv_iload_n cx.1 cx.2.1 dX0_putRow_11 rfl (lv_at hl 1 rfl) ?_
  refine lv_iload_n cx.1 cx.2.1 dX0_putRow_12 rfl (lv_at hl 3 rfl) ?_
  refine xs_B cx hI hk dX0_putRow_13 (fun H locs hI => ?_)
  exact ke_v cx hr hlk hI (Nat.zero_le _) (Nat.zero_le _) dX0_putRow_14 rfl (congrArg (xw ad ca) (by simp [xPut]))
set_option maxHeartbeats 4000000 in
set_option maxRecDepth 100000 in
theorem kX0_removeRow (l : Launch) (D : va_G) (ca : Nat → ClassId) (ad : Nat → Nat) (v : XS) (key : Int32) (hk : vp_in key 40) : CM l yX0_removeRow cX0_removeRow 2 none (KR 1 23) D ca (xw ad ca v) [.ref (ad 0), .int key] none (xw ad ca (xPut v key (-1) (-1))) := by
  refine CM.of (by decide) (Nat.le_of_ble_eq_true rfl) ?_
  intro p e s m below meth c A ls cx hml hr hlk hI hl
  have hl : lv_has ls 2 [(0, .ref (ad 0)), (1, .int key)] := hl
  refine lv_aload_n cx.1 cx.2.1 dX0_removeRow_0 rfl (lv_at hl 0 rfl) ?_
  refine lv_iload_n cx.1 cx.2.1 dX0_removeRow_1 rfl (lv_at hl 1 rfl) ?_
  refine lv_iconst (v := (-1)) cx.1 cx.2.1 dX0_removeRow_2 (by decide) ?_
  refine lv_iconst (v := (-1)) cx.1 cx.2.1 dX0_removeRow_3 (by decide) ?_
  refine xc_v 3 cx (hl.1.trans hml.symm) (kX0_putRow l D ca ad v key (-1) (-1) hk) hI wk_268 wk_265 wk_267 wq_11 ⟨rfl, by decide +kernel⟩ rfl ⟨rfl, rfl⟩ ⟨Nat.le_of_ble_eq_true rfl, Nat.le_of_ble_eq_true rfl⟩ (Nat.le_of_ble_eq_true rfl) dX0_removeRow_4 ⟨Nat.zero_le _, Nat.zero_le _⟩ rfl (fun H locs hI => ?_)
  exact ke_v cx hr hlk hI (Nat.zero_le _) (Nat.zero_le _) dX0_removeRow_7 rfl rfl
set_option maxHeartbeats 4000000 in
set_option maxRecDepth 100000 in
theorem kX0_digits (l : Launch) (D : va_G) (ca : Nat → ClassId) (b : Int32) : CM l yX0_digits cX0_digits 1 (some .int) (KR 0 0) D ca [] [.int b] (some (.int (xDig b))) [] := by
  refine CM.of (by decide) (Nat.le_of_ble_eq_true rfl) ?_
  intro p e s m below meth c A ls cx hml hr hlk hI hl
  have hl : lv_has ls 1 [(0, .int b)] := hl
  refine lv_iload_n cx.1 cx.2.1 dX0_digits_0 rfl (lv_at hl 0 rfl) ?_
  refine lv_bipush (v := 10) cx.1 cx.2.1 dX0_digits_1 (by decide) ?_
  refine lv_icmp_ge (tgt := 8) cx.1 cx.2.1 dX0_digits_3 (by decide) (fun c_1 => ?_) (fun c_1 => ?_)
  · refine lv_iload_n cx.1 cx.2.1 dX0_digits_8 rfl (lv_at hl 0 rfl) ?_
    refine lv_bipush (v := 100) cx.1 cx.2.1 dX0_digits_9 (by decide) ?_
    refine lv_icmp_ge (tgt := 18) cx.1 cx.2.1 dX0_digits_11 (by decide) (fun c_2 => ?_) (fun c_2 => ?_)
    · refine lv_iconst (v := 3) cx.1 cx.2.1 dX0_digits_18 (by decide) ?_
      exact ke_i cx hr hlk hI (Nat.zero_le _) (Nat.zero_le _) dX0_digits_19 (congrArg (fun z => some (Value.int z)) (by simp [xDig, c_1, c_2])) rfl
    · refine lv_iconst (v := 2) cx.1 cx.2.1 dX0_digits_14 (by decide) ?_
      refine lv_goto (tgt := 19) cx.1 cx.2.1 dX0_digits_15 (by decide) ?_
      exact ke_i cx hr hlk hI (Nat.zero_le _) (Nat.zero_le _) dX0_digits_19 (congrArg (fun z => some (Value.int z)) (by simp [xDig, c_1, c_2])) rfl
  · refine lv_iconst (v := 1) cx.1 cx.2.1 dX0_digits_6 (by decide) ?_
    exact ke_i cx hr hlk hI (Nat.zero_le _) (Nat.zero_le _) dX0_digits_7 (congrArg (fun z => some (Value.int z)) (by simp [xDig, c_1])) rfl
set_option maxHeartbeats 4000000 in
set_option maxRecDepth 100000 in
theorem kX0_alteredMiddle (l : Launch) (D : va_G) (ca : Nat → ClassId) (ad : Nat → Nat) (v : XS) (a b : Int32) : CM l yX0_alteredMiddle cX0_alteredMiddle 3 (some .int) (KR 0 0) D ca (xw ad ca v) [.ref (ad 0), .int a, .int b] (some (.int (xMid v a b))) (xw ad ca v) := by
  refine CM.of (by decide) (Nat.le_of_ble_eq_true rfl) ?_
  intro p e s m below meth c A ls cx hml hr hlk hI hl
  have hl : lv_has ls 3 [(0, .ref (ad 0)), (1, .int a), (2, .int b)] := hl
  refine lv_aload_n cx.1 cx.2.1 dX0_alteredMiddle_0 rfl (lv_at hl 0 rfl) ?_
  refine xg_8 cx hI dX0_alteredMiddle_1 ?_
  rcases Decidable.em (xt v = 0) with c_1 | c_1
  · refine lv_lookup (off := 28) (tgt := 32) cx.1 cx.2.1 dX0_alteredMiddle_4 (by decide) ( (by rw [c_1]; decide)) (by decide) ?_
    refine lv_iload_n cx.1 cx.2.1 dX0_alteredMiddle_32 rfl (lv_at hl 1 rfl) ?_
    refine lv_bipush (v := 100) cx.1 cx.2.1 dX0_alteredMiddle_33 (by decide) ?_
    refine lv_irem cx.1 cx.2.1 dX0_alteredMiddle_35 (by decide) ?_
    exact ke_i cx hr hlk hI (Nat.zero_le _) (Nat.zero_le _) dX0_alteredMiddle_36 (congrArg (fun z => some (Value.int z)) (by simp [xMid, c_1])) rfl
  ·
    rcases Decidable.em (xt v = 1) with c_2 | c_2
    · refine lv_lookup (off := 33) (tgt := 37) cx.1 cx.2.1 dX0_alteredMiddle_4 (by decide) ((lv_osw c_1 (by decide)).trans <| (by rw [c_2]; decide)) (by decide) ?_
      refine lv_iload_n cx.1 cx.2.1 dX0_alteredMiddle_37 rfl (lv_at hl 2 rfl) ?_
      exact ke_i cx hr hlk hI (Nat.zero_le _) (Nat.zero_le _) dX0_alteredMiddle_38 (congrArg (fun z => some (Value.int z)) (by simp [xMid, c_2, c_1])) rfl
    ·
      refine lv_lookup (off := 35) (tgt := 39) cx.1 cx.2.1 dX0_alteredMiddle_4 (by decide) ((lv_osw c_1 (by decide)).trans <| (lv_osw c_2 (by decide)).trans <| rfl) (by decide) ?_
      refine lv_iload_n cx.1 cx.2.1 dX0_alteredMiddle_39 rfl (lv_at hl 2 rfl) ?_
      refine lv_aload_n cx.1 cx.2.1 dX0_alteredMiddle_40 rfl (lv_at hl 0 rfl) ?_
      refine xg_9 cx hI dX0_alteredMiddle_41 ?_
      refine lv_imul cx.1 cx.2.1 dX0_alteredMiddle_44 ?_
      exact ke_i cx hr hlk hI (Nat.zero_le _) (Nat.zero_le _) dX0_alteredMiddle_45 (congrArg (fun z => some (Value.int z)) (by simp [xMid, c_1, c_2])) rfl
set_option maxHeartbeats 4000000 in
set_option maxRecDepth 100000 in
theorem kX0_alteredLast (l : Launch) (D : va_G) (ca : Nat → ClassId) (ad : Nat → Nat) (v : XS) (b : Int32) : CM l yX0_alteredLast cX0_alteredLast 2 (some .int) (KR 1 20) D ca (xw ad ca v) [.ref (ad 0), .int b] (some (.int (xLast v b))) (xw ad ca v) := by
  refine CM.of (by decide) (Nat.le_of_ble_eq_true rfl) ?_
  intro p e s m below meth c A ls cx hml hr hlk hI hl
  have hl : lv_has ls 2 [(0, .ref (ad 0)), (1, .int b)] := hl
  refine lv_aload_n cx.1 cx.2.1 dX0_alteredLast_0 rfl (lv_at hl 0 rfl) ?_
  refine xg_8 cx hI dX0_alteredLast_1 ?_
  rcases Decidable.em (xt v = 0) with c_1 | c_1
  · refine lv_lookup (off := 28) (tgt := 32) cx.1 cx.2.1 dX0_alteredLast_4 (by decide) ( (by rw [c_1]; decide)) (by decide) ?_
    refine lv_iload_n cx.1 cx.2.1 dX0_alteredLast_32 rfl (lv_at hl 1 rfl) ?_
    exact ke_i cx hr hlk hI (Nat.zero_le _) (Nat.zero_le _) dX0_alteredLast_33 (congrArg (fun z => some (Value.int z)) (by simp [xLast, c_1])) rfl
  ·
    rcases Decidable.em (xt v = 1) with c_2 | c_2
    · refine lv_lookup (off := 30) (tgt := 34) cx.1 cx.2.1 dX0_alteredLast_4 (by decide) ((lv_osw c_1 (by decide)).trans <| (by rw [c_2]; decide)) (by decide) ?_
      refine lv_iconst (v := 0) cx.1 cx.2.1 dX0_alteredLast_34 (by decide) ?_
      exact ke_i cx hr hlk hI (Nat.zero_le _) (Nat.zero_le _) dX0_alteredLast_35 (congrArg (fun z => some (Value.int z)) (by simp [xLast, c_2, c_1])) rfl
    ·
      refine lv_lookup (off := 32) (tgt := 36) cx.1 cx.2.1 dX0_alteredLast_4 (by decide) ((lv_osw c_1 (by decide)).trans <| (lv_osw c_2 (by decide)).trans <| rfl) (by decide) ?_
      refine lv_iload_n cx.1 cx.2.1 dX0_alteredLast_36 rfl (lv_at hl 1 rfl) ?_
      refine ks_i 1 cx (hl.1.trans hml.symm) (kX0_digits l D ca b) hI wk_210 wk_208 wk_209 wk_1 ⟨by decide, by decide, by decide +kernel⟩ rfl ⟨rfl, rfl⟩ ⟨Nat.le_of_ble_eq_true rfl, Nat.le_of_ble_eq_true rfl⟩ (Nat.le_of_ble_eq_true rfl) dX0_alteredLast_37 ⟨Nat.zero_le _, Nat.zero_le _⟩ rfl (fun H locs hI => ?_)
      exact ke_i cx hr hlk hI (Nat.zero_le _) (Nat.zero_le _) dX0_alteredLast_40 (congrArg (fun z => some (Value.int z)) (by simp [xLast, c_1, c_2])) rfl
set_option maxHeartbeats 4000000 in
set_option maxRecDepth 100000 in
theorem kX0_alteredColumn (l : Launch) (D : va_G) (ca : Nat → ClassId) (ad : Nat → Nat) (v : XS) (a b col : Int32) : CM l yX0_alteredColumn cX0_alteredColumn 4 (some .int) (KR 2 41) D ca (xw ad ca v) [.ref (ad 0), .int a, .int b, .int col] (some (.int (xAlt v a b col))) (xw ad ca v) := by
  refine CM.of (by decide) (Nat.le_of_ble_eq_true rfl) ?_
  intro p e s m below meth c A ls cx hml hr hlk hI hl
  have hl : lv_has ls 4 [(0, .ref (ad 0)), (1, .int a), (2, .int b), (3, .int col)] := hl
  refine lv_iload_n cx.1 cx.2.1 dX0_alteredColumn_0 rfl (lv_at hl 3 rfl) ?_
  rcases Decidable.em (col = 0) with c_1 | c_1
  · refine lv_lookup (off := 27) (tgt := 28) cx.1 cx.2.1 dX0_alteredColumn_1 (by decide) ( (by rw [c_1]; decide)) (by decide) ?_
    refine lv_aload_n cx.1 cx.2.1 dX0_alteredColumn_28 rfl (lv_at hl 0 rfl) ?_
    refine xg_8 cx hI dX0_alteredColumn_29 ?_
    refine lv_if_ne (tgt := 42) cx.1 cx.2.1 dX0_alteredColumn_32 (by decide) (fun c_2 => ?_) (fun c_2 => ?_)
    · refine lv_iload_n cx.1 cx.2.1 dX0_alteredColumn_42 rfl (lv_at hl 1 rfl) ?_
      exact ke_i cx hr hlk hI (Nat.zero_le _) (Nat.zero_le _) dX0_alteredColumn_43 (congrArg (fun z => some (Value.int z)) (by simp [xAlt, c_1, c_2])) rfl
    · refine lv_iload_n cx.1 cx.2.1 dX0_alteredColumn_35 rfl (lv_at hl 1 rfl) ?_
      refine lv_bipush (v := 100) cx.1 cx.2.1 dX0_alteredColumn_36 (by decide) ?_
      refine lv_idiv cx.1 cx.2.1 dX0_alteredColumn_38 (by decide) ?_
      refine lv_goto (tgt := 43) cx.1 cx.2.1 dX0_alteredColumn_39 (by decide) ?_
      exact ke_i cx hr hlk hI (Nat.zero_le _) (Nat.zero_le _) dX0_alteredColumn_43 (congrArg (fun z => some (Value.int z)) (by simp [xAlt, c_1, c_2])) rfl
  ·
    rcases Decidable.em (col = 1) with c_3 | c_3
    · refine lv_lookup (off := 43) (tgt := 44) cx.1 cx.2.1 dX0_alteredColumn_1 (by decide) ((lv_osw c_1 (by decide)).trans <| (by rw [c_3]; decide)) (by decide) ?_
      refine lv_aload_n cx.1 cx.2.1 dX0_alteredColumn_44 rfl (lv_at hl 0 rfl) ?_
      refine lv_iload_n cx.1 cx.2.1 dX0_alteredColumn_45 rfl (lv_at hl 1 rfl) ?_
      refine lv_iload_n cx.1 cx.2.1 dX0_alteredColumn_46 rfl (lv_at hl 2 rfl) ?_
      refine xc_i 2 cx (hl.1.trans hml.symm) (kX0_alteredMiddle l D ca ad v a b) hI wk_203 wk_200 wk_202 wq_7 ⟨rfl, by decide +kernel⟩ rfl ⟨rfl, rfl⟩ ⟨Nat.le_of_ble_eq_true rfl, Nat.le_of_ble_eq_true rfl⟩ (Nat.le_of_ble_eq_true rfl) dX0_alteredColumn_47 ⟨Nat.zero_le _, Nat.zero_le _⟩ rfl (fun H locs hI => ?_)
      exact ke_i cx hr hlk hI (Nat.zero_le _) (Nat.zero_le _) dX0_alteredColumn_50 (congrArg (fun z => some (Value.int z)) (by simp [xAlt, c_3, c_1])) rfl
    ·
      refine lv_lookup (off := 50) (tgt := 51) cx.1 cx.2.1 dX0_alteredColumn_1 (by decide) ((lv_osw c_1 (by decide)).trans <| (lv_osw c_3 (by decide)).trans <| rfl) (by decide) ?_
      refine lv_aload_n cx.1 cx.2.1 dX0_alteredColumn_51 rfl (lv_at hl 0 rfl) ?_
      refine lv_iload_n cx.1 cx.2.1 dX0_alteredColumn_52 rfl (lv_at hl 2 rfl) ?_
      refine xc_i 1 cx (hl.1.trans hml.symm) (kX0_alteredLast l D ca ad v b) hI wk_207 wk_204 wk_206 wq_8 ⟨rfl, by decide +kernel⟩ rfl ⟨rfl, rfl⟩ ⟨Nat.le_of_ble_eq_true rfl, Nat.le_of_ble_eq_true rfl⟩ (Nat.le_of_ble_eq_true rfl) dX0_alteredColumn_53 ⟨Nat.zero_le _, Nat.zero_le _⟩ rfl (fun H locs hI => ?_)
      exact ke_i cx hr hlk hI (Nat.zero_le _) (Nat.zero_le _) dX0_alteredColumn_56 (congrArg (fun z => some (Value.int z)) (by simp [xAlt, c_1, c_3])) rfl
set_option maxHeartbeats 4000000 in
set_option maxRecDepth 100000 in
theorem kX0_broughtColumn (l : Launch) (D : va_G) (ca : Nat → ClassId) (ad : Nat → Nat) (v : XS) (key col : Int32) (hk : vp_in key 40) : CM l yX0_broughtColumn cX0_broughtColumn 3 (some .int) (KR 3 64) D ca (xw ad ca v) [.ref (ad 0), .int key, .int col] (some (.int (xBro v key col))) (xw ad ca v) := by
  refine CM.of (by decide) (Nat.le_of_ble_eq_true rfl) ?_
  intro p e s m below meth c A ls cx hml hr hlk hI hl
  have hl : lv_has ls 3 [(0, .ref (ad 0)), (1, .int key), (2, .int col)] := hl
  refine lv_aload_n cx.1 cx.2.1 dX0_broughtColumn_0 rfl (lv_at hl 0 rfl) ?_
  refine lv_iload_n cx.1 cx.2.1 dX0_broughtColumn_1 rfl (lv_at hl 1 rfl) ?_
  refine xc_i 1 cx (hl.1.trans hml.symm) (kX0_isInOld l D ca ad v key hk) hI wk_191 wk_188 wk_190 wq_4 ⟨rfl, by decide +kernel⟩ rfl ⟨rfl, rfl⟩ ⟨Nat.le_of_ble_eq_true rfl, Nat.le_of_ble_eq_true rfl⟩ (Nat.le_of_ble_eq_true rfl) dX0_broughtColumn_2 ⟨Nat.zero_le _, Nat.zero_le _⟩ rfl (fun H locs hI => ?_)
  refine kb_eq (tgt := 21) cx dX0_broughtColumn_5 (by decide) (fun c_1 => ?_) (fun c_1 => ?_)
  · refine lv_iconst (v := (-1)) cx.1 cx.2.1 dX0_broughtColumn_21 (by decide) ?_
    exact ke_i cx hr hlk hI (Nat.zero_le _) (Nat.zero_le _) dX0_broughtColumn_22 (congrArg (fun z => some (Value.int z)) (by simp [xBro, c_1])) rfl
  · refine lv_aload_n cx.1 cx.2.1 dX0_broughtColumn_8 rfl (lv_at hl 0 rfl) ?_
    refine lv_aload_n cx.1 cx.2.1 dX0_broughtColumn_9 rfl (lv_at hl 0 rfl) ?_
    refine xg_1 cx hI dX0_broughtColumn_10 ?_
    refine lv_iload_n cx.1 cx.2.1 dX0_broughtColumn_13 rfl (lv_at hl 1 rfl) ?_
    refine xa_B cx hI hk dX0_broughtColumn_14 ?_
    refine xc_i 1 cx (hl.1.trans hml.symm) (kX0_fits l D ca ad v (xB v key.toNatClampNeg)) hI wk_195 wk_192 wk_194 wq_5 ⟨rfl, by decide +kernel⟩ rfl ⟨rfl, rfl⟩ ⟨Nat.le_of_ble_eq_true rfl, Nat.le_of_ble_eq_true rfl⟩ (Nat.le_of_ble_eq_true rfl) dX0_broughtColumn_15 ⟨Nat.zero_le _, Nat.zero_le _⟩ rfl (fun H locs hI => ?_)
    refine kb_ne (tgt := 23) cx dX0_broughtColumn_18 (by decide) (fun c_2 => ?_) (fun c_2 => ?_)
    · refine lv_aload_n cx.1 cx.2.1 dX0_broughtColumn_23 rfl (lv_at hl 0 rfl) ?_
      refine lv_aload_n cx.1 cx.2.1 dX0_broughtColumn_24 rfl (lv_at hl 0 rfl) ?_
      refine xg_0 cx hI dX0_broughtColumn_25 ?_
      refine lv_iload_n cx.1 cx.2.1 dX0_broughtColumn_28 rfl (lv_at hl 1 rfl) ?_
      refine xa_A cx hI hk dX0_broughtColumn_29 ?_
      refine lv_aload_n cx.1 cx.2.1 dX0_broughtColumn_30 rfl (lv_at hl 0 rfl) ?_
      refine xg_1 cx hI dX0_broughtColumn_31 ?_
      refine lv_iload_n cx.1 cx.2.1 dX0_broughtColumn_34 rfl (lv_at hl 1 rfl) ?_
      refine xa_B cx hI hk dX0_broughtColumn_35 ?_
      refine lv_iload_n cx.1 cx.2.1 dX0_broughtColumn_36 rfl (lv_at hl 2 rfl) ?_
      refine xc_i 3 cx (hl.1.trans hml.symm) (kX0_alteredColumn l D ca ad v (xA v key.toNatClampNeg) (xB v key.toNatClampNeg) col) hI wk_199 wk_196 wk_198 wq_6 ⟨rfl, by decide +kernel⟩ rfl ⟨rfl, rfl⟩ ⟨Nat.le_of_ble_eq_true rfl, Nat.le_of_ble_eq_true rfl⟩ (Nat.le_of_ble_eq_true rfl) dX0_broughtColumn_37 ⟨Nat.zero_le _, Nat.zero_le _⟩ rfl (fun H locs hI => ?_)
      exact ke_i cx hr hlk hI (Nat.zero_le _) (Nat.zero_le _) dX0_broughtColumn_40 (congrArg (fun z => some (Value.int z)) (by simp [xBro, c_1, c_2])) rfl
    · refine lv_iconst (v := (-1)) cx.1 cx.2.1 dX0_broughtColumn_21 (by decide) ?_
      exact ke_i cx hr hlk hI (Nat.zero_le _) (Nat.zero_le _) dX0_broughtColumn_22 (congrArg (fun z => some (Value.int z)) (by simp [xBro, c_1, c_2])) rfl
set_option maxHeartbeats 4000000 in
set_option maxRecDepth 100000 in
theorem kX0_noteKey (l : Launch) (D : va_G) (ca : Nat → ClassId) (ad : Nat → Nat) (v : XS) (key : Int32) (h0 : ¬ xc v < 0) : CM l yX0_noteKey cX0_noteKey 2 none (KR 0 0) D ca (xw ad ca v) [.ref (ad 0), .int key] none (xw ad ca (xNote v key)) := by
  refine CM.of (by decide) (Nat.le_of_ble_eq_true rfl) ?_
  intro p e s m below meth c A ls cx hml hr hlk hI hl
  have hl : lv_has ls 2 [(0, .ref (ad 0)), (1, .int key)] := hl
  refine lv_aload_n cx.1 cx.2.1 dX0_noteKey_0 rfl (lv_at hl 0 rfl) ?_
  refine xg_5 cx hI dX0_noteKey_1 ?_
  refine lv_sipush (v := 1024) cx.1 cx.2.1 dX0_noteKey_4 (by decide) ?_
  refine lv_icmp_ge (tgt := 30) cx.1 cx.2.1 dX0_noteKey_7 (by decide) (fun c_1 => ?_) (fun c_1 => ?_)
  · exact ke_v cx hr hlk hI (Nat.zero_le _) (Nat.zero_le _) dX0_noteKey_30 rfl (congrArg (xw ad ca) (by simp [xNote, c_1]))
  · refine lv_aload_n cx.1 cx.2.1 dX0_noteKey_10 rfl (lv_at hl 0 rfl) ?_
    refine xg_4 cx hI dX0_noteKey_11 ?_
    refine lv_aload_n cx.1 cx.2.1 dX0_noteKey_14 rfl (lv_at hl 0 rfl) ?_
    refine xg_5 cx hI dX0_noteKey_15 ?_
    refine lv_iload_n cx.1 cx.2.1 dX0_noteKey_18 rfl (lv_at hl 1 rfl) ?_
    refine xs_N cx hI (kin_of h0 c_1) dX0_noteKey_19 (fun H locs hI => ?_)
    refine lv_aload_n cx.1 cx.2.1 dX0_noteKey_20 rfl (lv_at hl 0 rfl) ?_
    refine lv_dup cx.1 cx.2.1 dX0_noteKey_21 rfl ?_
    refine xg_5 cx hI dX0_noteKey_22 ?_
    refine lv_iconst (v := 1) cx.1 cx.2.1 dX0_noteKey_25 (by decide) ?_
    refine lv_iadd cx.1 cx.2.1 dX0_noteKey_26 ?_
    refine xp_5 cx hI dX0_noteKey_27 (fun H locs hI => ?_)
    exact ke_v cx hr hlk hI (Nat.zero_le _) (Nat.zero_le _) dX0_noteKey_30 rfl (congrArg (xw ad ca) (by simp [xNote, c_1]))

/-! MINE: the class's questions, where key and column are in range: no throw, no new cell. -/
theorem in_key {k : Int32} (h : vp_in k 40) : xWithin k 0 39 = true := by
  rw [vp_in_iff] at h
  unfold xWithin
  have e0 : (0 : Int32).toInt = 0 := rfl
  have e1 : (39 : Int32).toInt = 39 := rfl
  rw [decide_eq_false (by rw [Int32.lt_iff_toInt_lt]; omega), decide_eq_false (by rw [Int32.lt_iff_toInt_lt]; omega)]
  rfl
theorem in_col {k : Int32} (h : vp_in k 3) : xWithin k 0 2 = true := by
  rw [vp_in_iff] at h
  unfold xWithin
  have e0 : (0 : Int32).toInt = 0 := rfl
  have e1 : (2 : Int32).toInt = 2 := rfl
  rw [decide_eq_false (by rw [Int32.lt_iff_toInt_lt]; omega), decide_eq_false (by rw [Int32.lt_iff_toInt_lt]; omega)]
  rfl
set_option maxHeartbeats 4000000 in
set_option maxRecDepth 100000 in
theorem kS_shadow (l : Launch) (D : va_G) (ca : Nat → ClassId) (ad : Nat → Nat) (v : XS) (key col : Int32) (hk : vp_in key 40) (hc : vp_in col 3) : CM l yX0_shadow cX0_shadow 3 (some .int) (KR 2 42) D ca (xw ad ca v) [.ref (ad 0), .int key, .int col] (some (.int (xC v col.toNatClampNeg key.toNatClampNeg))) (xw ad ca v) := by
  refine CM.of (by decide) (Nat.le_of_ble_eq_true rfl) ?_
  intro p e s m below meth c A ls cx hml hr hlk hI hl
  have hl : lv_has ls 3 [(0, .ref (ad 0)), (1, .int key), (2, .int col)] := hl
  refine lv_iload_n cx.1 cx.2.1 dX0_shadow_0 rfl (lv_at hl 1 rfl) ?_
  refine ks_i 1 cx (hl.1.trans hml.symm) (kX0_isKey l D ca key) hI wk_89 wk_87 wk_88 wk_1 ⟨by decide, by decide, by decide +kernel⟩ rfl ⟨rfl, rfl⟩ ⟨Nat.le_of_ble_eq_true rfl, Nat.le_of_ble_eq_true rfl⟩ (Nat.le_of_ble_eq_true rfl) dX0_shadow_1 ⟨Nat.zero_le _, Nat.zero_le _⟩ rfl (fun H locs hI => ?_)
  refine kb_eq (tgt := 14) cx dX0_shadow_4 (by decide) (fun h9 => absurd h9 (by rw [in_key hk]; decide)) (fun _ => ?_)
  refine lv_iload_n cx.1 cx.2.1 dX0_shadow_7 rfl (lv_at hl 2 rfl) ?_
  refine ks_i 1 cx (hl.1.trans hml.symm) (kX0_isColumn l D ca col) hI wk_95 wk_93 wk_94 wk_1 ⟨by decide, by decide, by decide +kernel⟩ rfl ⟨rfl, rfl⟩ ⟨Nat.le_of_ble_eq_true rfl, Nat.le_of_ble_eq_true rfl⟩ (Nat.le_of_ble_eq_true rfl) dX0_shadow_8 ⟨Nat.zero_le _, Nat.zero_le _⟩ rfl (fun H locs hI => ?_)
  refine kb_ne (tgt := 24) cx dX0_shadow_11 (by decide) (fun _ => ?_) (fun h9 => absurd h9 (by rw [in_col hc]; decide))
  refine lv_aload_n cx.1 cx.2.1 dX0_shadow_24 rfl (lv_at hl 0 rfl) ?_
  refine xg_2 cx hI dX0_shadow_25 ?_
  refine lv_iload_n cx.1 cx.2.1 dX0_shadow_28 rfl (lv_at hl 2 rfl) ?_
  refine xa_cols cx hI hc dX0_shadow_29 ?_
  refine lv_iload_n cx.1 cx.2.1 dX0_shadow_30 rfl (lv_at hl 1 rfl) ?_
  refine xa_col (j := col.toNatClampNeg) cx hI hc rfl hk dX0_shadow_31 ?_
  exact ke_i cx hr hlk hI (Nat.zero_le _) (Nat.zero_le _) dX0_shadow_32 rfl rfl
set_option maxHeartbeats 4000000 in
set_option maxRecDepth 100000 in
theorem kS_row (l : Launch) (D : va_G) (ca : Nat → ClassId) (ad : Nat → Nat) (v : XS) (key : Int32) (hk : vp_in key 40) : CM l yX0_row cX0_row 2 (some .int) (KR 2 42) D ca (xw ad ca v) [.ref (ad 0), .int key] (some (.int (if xSeen v key then xRow v key else -1))) (xw ad ca v) := by
  refine CM.of (by decide) (Nat.le_of_ble_eq_true rfl) ?_
  intro p e s m below meth c A ls cx hml hr hlk hI hl
  have hl : lv_has ls 2 [(0, .ref (ad 0)), (1, .int key)] := hl
  refine lv_iload_n cx.1 cx.2.1 dX0_row_0 rfl (lv_at hl 1 rfl) ?_
  refine ks_i 1 cx (hl.1.trans hml.symm) (kX0_isKey l D ca key) hI wk_89 wk_87 wk_88 wk_1 ⟨by decide, by decide, by decide +kernel⟩ rfl ⟨rfl, rfl⟩ ⟨Nat.le_of_ble_eq_true rfl, Nat.le_of_ble_eq_true rfl⟩ (Nat.le_of_ble_eq_true rfl) dX0_row_1 ⟨Nat.zero_le _, Nat.zero_le _⟩ rfl (fun H locs hI => ?_)
  refine kb_ne (tgt := 17) cx dX0_row_4 (by decide) (fun _ => ?_) (fun h9 => absurd h9 (by rw [in_key hk]; decide))
  refine lv_aload_n cx.1 cx.2.1 dX0_row_17 rfl (lv_at hl 0 rfl) ?_
  refine lv_iload_n cx.1 cx.2.1 dX0_row_18 rfl (lv_at hl 1 rfl) ?_
  refine xc_i 1 cx (hl.1.trans hml.symm) (kX0_isSeen l D ca ad v key hk) hI wk_248 wk_245 wk_247 wq_10 ⟨rfl, by decide +kernel⟩ rfl ⟨rfl, rfl⟩ ⟨Nat.le_of_ble_eq_true rfl, Nat.le_of_ble_eq_true rfl⟩ (Nat.le_of_ble_eq_true rfl) dX0_row_19 ⟨Nat.zero_le _, Nat.zero_le _⟩ rfl (fun H locs hI => ?_)
  refine kb_eq (tgt := 33) cx dX0_row_22 (by decide) (fun c_2 => ?_) (fun c_2 => ?_)
  · refine lv_iconst (v := (-1)) cx.1 cx.2.1 dX0_row_33 (by decide) ?_
    exact ke_i cx hr hlk hI (Nat.zero_le _) (Nat.zero_le _) dX0_row_34 (congrArg (fun z => some (Value.int z)) (by simp [c_2])) rfl
  · refine lv_aload_n cx.1 cx.2.1 dX0_row_25 rfl (lv_at hl 0 rfl) ?_
    refine lv_iload_n cx.1 cx.2.1 dX0_row_26 rfl (lv_at hl 1 rfl) ?_
    refine xc_i 1 cx (hl.1.trans hml.symm) (kX0_rowAsNumber l D ca ad v key hk) hI wk_325 wk_322 wk_324 wq_16 ⟨rfl, by decide +kernel⟩ rfl ⟨rfl, rfl⟩ ⟨Nat.le_of_ble_eq_true rfl, Nat.le_of_ble_eq_true rfl⟩ (Nat.le_of_ble_eq_true rfl) dX0_row_27 ⟨Nat.zero_le _, Nat.zero_le _⟩ rfl (fun H locs hI => ?_)
    refine lv_goto (tgt := 34) cx.1 cx.2.1 dX0_row_30 (by decide) ?_
    exact ke_i cx hr hlk hI (Nat.zero_le _) (Nat.zero_le _) dX0_row_34 (congrArg (fun z => some (Value.int z)) (by simp [c_2])) rfl
set_option maxHeartbeats 4000000 in
set_option maxRecDepth 100000 in
theorem kS_isRefused (l : Launch) (D : va_G) (ca : Nat → ClassId) (ad : Nat → Nat) (v : XS) (key : Int32) (hz : ∀ j : Nat, narrow .boolean (.int (xR v j)) = .int (xR v j)) (hk : vp_in key 40) : CM l yX0_isRefused cX0_isRefused 2 (some .boolean) (KR 2 42) D ca (xw ad ca v) [.ref (ad 0), .int key] (some (.int (xR v key.toNatClampNeg))) (xw ad ca v) := by
  refine CM.of (by decide) (Nat.le_of_ble_eq_true rfl) ?_
  intro p e s m below meth c A ls cx hml hr hlk hI hl
  have hl : lv_has ls 2 [(0, .ref (ad 0)), (1, .int key)] := hl
  refine lv_iload_n cx.1 cx.2.1 dX0_isRefused_0 rfl (lv_at hl 1 rfl) ?_
  refine ks_i 1 cx (hl.1.trans hml.symm) (kX0_isKey l D ca key) hI wk_89 wk_87 wk_88 wk_1 ⟨by decide, by decide, by decide +kernel⟩ rfl ⟨rfl, rfl⟩ ⟨Nat.le_of_ble_eq_true rfl, Nat.le_of_ble_eq_true rfl⟩ (Nat.le_of_ble_eq_true rfl) dX0_isRefused_1 ⟨Nat.zero_le _, Nat.zero_le _⟩ rfl (fun H locs hI => ?_)
  refine kb_ne (tgt := 17) cx dX0_isRefused_4 (by decide) (fun _ => ?_) (fun h9 => absurd h9 (by rw [in_key hk]; decide))
  refine lv_aload_n cx.1 cx.2.1 dX0_isRefused_17 rfl (lv_at hl 0 rfl) ?_
  refine xg_3 cx hI dX0_isRefused_18 ?_
  refine lv_iload_n cx.1 cx.2.1 dX0_isRefused_21 rfl (lv_at hl 1 rfl) ?_
  refine xa_R cx hI hk dX0_isRefused_22 ?_
  exact ke_z cx hr hlk hI (Nat.zero_le _) (Nat.zero_le _) dX0_isRefused_23 (hz _) rfl rfl
set_option maxHeartbeats 4000000 in
set_option maxRecDepth 100000 in
theorem kS_sum (l : Launch) (D : va_G) (ca : Nat → ClassId) (ad : Nat → Nat) (v : XS) (col : Int32) (hc : vp_in col 3) : CM l yX0_sum cX0_sum 4 (some .int) (KR 2 42) D ca (xw ad ca v) [.ref (ad 0), .int col] (some (.int (xSum v col 40))) (xw ad ca v) := by
  refine CM.of (by decide) (Nat.le_of_ble_eq_true rfl) ?_
  intro p e s m below meth c A ls cx hml hr hlk hI hl
  have hl : lv_has ls 4 [(0, .ref (ad 0)), (1, .int col)] := hl
  refine lv_iload_n cx.1 cx.2.1 dX0_sum_0 rfl (lv_at hl 1 rfl) ?_
  refine ks_i 1 cx (hl.1.trans hml.symm) (kX0_isColumn l D ca col) hI wk_95 wk_93 wk_94 wk_1 ⟨by decide, by decide, by decide +kernel⟩ rfl ⟨rfl, rfl⟩ ⟨Nat.le_of_ble_eq_true rfl, Nat.le_of_ble_eq_true rfl⟩ (Nat.le_of_ble_eq_true rfl) dX0_sum_1 ⟨Nat.zero_le _, Nat.zero_le _⟩ rfl (fun H locs hI => ?_)
  refine kb_ne (tgt := 17) cx dX0_sum_4 (by decide) (fun _ => ?_) (fun h9 => absurd h9 (by rw [in_col hc]; decide))
  refine lv_iconst (v := 0) cx.1 cx.2.1 dX0_sum_17 (by decide) ?_
  refine lv_istore_n (lv' := [(2, .int 0), (0, .ref (ad 0)), (1, .int col)]) cx.1 cx.2.1 dX0_sum_18 rfl hl (by decide) rfl (fun ls hl => ?_)
  refine lv_iconst (v := 0) cx.1 cx.2.1 dX0_sum_19 (by decide) ?_
  refine lv_istore_n (lv' := [(3, .int 0), (2, .int 0), (0, .ref (ad 0)), (1, .int col)]) cx.1 cx.2.1 dX0_sum_20 rfl hl (by decide) rfl (fun ls hl => ?_)
  refine k_loop 40 (fun i => (xw ad ca v)) (fun i => [(3, .int (nI i)), (2, .int (xSum v col i)), (0, .ref (ad 0)), (1, .int col)]) hI (lv_sub hl [0, 1, 2, 3] rfl) (fun H locs ls hI hl => ?_) (fun i hi H locs ls hI hl ih => ?_)
  · have hI : KI D A (xw ad ca v) s.heap H locs := hI
    have hl : lv_has ls 4 [(3, .int (nI 40)), (2, .int (xSum v col 40)), (0, .ref (ad 0)), (1, .int col)] := hl
    refine lv_iload_n cx.1 cx.2.1 dX0_sum_21 rfl (lv_at hl 0 rfl) ?_
    refine lv_bipush (v := 40) cx.1 cx.2.1 dX0_sum_22 (by decide) ?_
    refine lv_icmp_ge (tgt := 52) cx.1 cx.2.1 dX0_sum_24 (by decide) (fun _ => ?_) (fun h9 => absurd (by decide : (40 : Int32) ≤ nI 40) h9)
    refine lv_iload_n cx.1 cx.2.1 dX0_sum_52 rfl (lv_at hl 1 rfl) ?_
    exact ke_i cx hr hlk hI (Nat.zero_le _) (Nat.zero_le _) dX0_sum_53 rfl rfl
  · have hI : KI D A (xw ad ca v) s.heap H locs := hI
    have hl : lv_has ls 4 [(3, .int (nI i)), (2, .int (xSum v col i)), (0, .ref (ad 0)), (1, .int col)] := hl
    refine lv_iload_n cx.1 cx.2.1 dX0_sum_21 rfl (lv_at hl 0 rfl) ?_
    refine lv_bipush (v := 40) cx.1 cx.2.1 dX0_sum_22 (by decide) ?_
    refine lv_icmp_ge (tgt := 52) cx.1 cx.2.1 dX0_sum_24 (by decide) (fun h9 => absurd h9 (nI_ge hi (by decide))) (fun _ => ?_)
    refine lv_aload_n cx.1 cx.2.1 dX0_sum_27 rfl (lv_at hl 2 rfl) ?_
    refine lv_iload_n cx.1 cx.2.1 dX0_sum_28 rfl (lv_at hl 0 rfl) ?_
    refine xc_i 1 cx (hl.1.trans hml.symm) (kX0_isInShadow l D ca ad v (nI i) (vp_in_nI hi (by decide))) hI wk_175 wk_172 wk_174 wq_1 ⟨rfl, by decide +kernel⟩ rfl ⟨rfl, rfl⟩ ⟨Nat.le_of_ble_eq_true rfl, Nat.le_of_ble_eq_true rfl⟩ (Nat.le_of_ble_eq_true rfl) dX0_sum_29 ⟨Nat.zero_le _, Nat.zero_le _⟩ rfl (fun H locs hI => ?_)
    refine kb_eq (tgt := 46) cx dX0_sum_32 (by decide) (fun c_4 => ?_) (fun c_4 => ?_)
    · refine lv_iinc (v := nI (i + 1)) (lv' := [(3, .int (nI (i + 1))), (2, .int (xSum v col i)), (0, .ref (ad 0)), (1, .int col)]) cx.1 cx.2.1 dX0_sum_46 hl (k := 0) rfl (nI_1 i) (by decide) rfl (fun ls hl => ?_)
      refine lv_goto (tgt := 21) cx.1 cx.2.1 dX0_sum_49 (by decide) ?_
      refine ih _ _ _ ?_ ?_
      · show KI D A (xw ad ca v) s.heap _ _
        exact hI
      · show lv_has _ _ [(3, .int (nI (i + 1))), (2, .int (xSum v col (i + 1))), (0, .ref (ad 0)), (1, .int col)]
        rw [show xSum v col (i + 1) = xSum v col i from (by simp [c_4, xSum_t, xSum_f])]
        exact lv_sub hl [0, 1, 2, 3] rfl
    · refine lv_iload_n cx.1 cx.2.1 dX0_sum_35 rfl (lv_at hl 1 rfl) ?_
      refine lv_aload_n cx.1 cx.2.1 dX0_sum_36 rfl (lv_at hl 2 rfl) ?_
      refine xg_2 cx hI dX0_sum_37 ?_
      refine lv_iload_n cx.1 cx.2.1 dX0_sum_40 rfl (lv_at hl 3 rfl) ?_
      refine xa_cols cx hI hc dX0_sum_41 ?_
      refine lv_iload_n cx.1 cx.2.1 dX0_sum_42 rfl (lv_at hl 0 rfl) ?_
      refine xa_col (j := col.toNatClampNeg) cx hI hc rfl (vp_in_nI hi (by decide)) dX0_sum_43 ?_
      refine lv_iadd cx.1 cx.2.1 dX0_sum_44 ?_
      refine lv_istore_n (lv' := [(2, .int ((xSum v col i) + (xC v col.toNatClampNeg (nI i).toNatClampNeg))), (3, .int (nI i)), (0, .ref (ad 0)), (1, .int col)]) cx.1 cx.2.1 dX0_sum_45 rfl hl (by decide) rfl (fun ls hl => ?_)
      refine lv_iinc (v := nI (i + 1)) (lv' := [(3, .int (nI (i + 1))), (2, .int ((xSum v col i) + (xC v col.toNatClampNeg (nI i).toNatClampNeg))), (0, .ref (ad 0)), (1, .int col)]) cx.1 cx.2.1 dX0_sum_46 hl (k := 1) rfl (nI_1 i) (by decide) rfl (fun ls hl => ?_)
      refine lv_goto (tgt := 21) cx.1 cx.2.1 dX0_sum_49 (by decide) ?_
      refine ih _ _ _ ?_ ?_
      · show KI D A (xw ad ca v) s.heap _ _
        exact hI
      · show lv_has _ _ [(3, .int (nI (i + 1))), (2, .int (xSum v col (i + 1))), (0, .ref (ad 0)), (1, .int col)]
        rw [show xSum v col (i + 1) = (xSum v col i) + (xC v col.toNatClampNeg (nI i).toNatClampNeg) from (by simp [c_4, xSum_t, xSum_f])]
        exact lv_sub hl [0, 1, 2, 3] rfl
set_option maxHeartbeats 4000000 in
set_option maxRecDepth 100000 in
theorem kS_sumAtOnce (l : Launch) (D : va_G) (ca : Nat → ClassId) (ad : Nat → Nat) (v : XS) (col : Int32) (hc : vp_in col 3) : CM l yX0_sumAtOnce cX0_sumAtOnce 5 (some .int) (KR 4 86) D ca (xw ad ca v) [.ref (ad 0), .int col] (some (.int (if xp v = 0 then 0 else xSumAt v col 40))) (xw ad ca v) := by
  refine CM.of (by decide) (Nat.le_of_ble_eq_true rfl) ?_
  intro p e s m below meth c A ls cx hml hr hlk hI hl
  have hl : lv_has ls 5 [(0, .ref (ad 0)), (1, .int col)] := hl
  refine lv_iload_n cx.1 cx.2.1 dX0_sumAtOnce_0 rfl (lv_at hl 1 rfl) ?_
  refine ks_i 1 cx (hl.1.trans hml.symm) (kX0_isColumn l D ca col) hI wk_95 wk_93 wk_94 wk_1 ⟨by decide, by decide, by decide +kernel⟩ rfl ⟨rfl, rfl⟩ ⟨Nat.le_of_ble_eq_true rfl, Nat.le_of_ble_eq_true rfl⟩ (Nat.le_of_ble_eq_true rfl) dX0_sumAtOnce_1 ⟨Nat.zero_le _, Nat.zero_le _⟩ rfl (fun H locs hI => ?_)
  refine kb_ne (tgt := 17) cx dX0_sumAtOnce_4 (by decide) (fun _ => ?_) (fun h9 => absurd h9 (by rw [in_col hc]; decide))
  refine lv_aload_n cx.1 cx.2.1 dX0_sumAtOnce_17 rfl (lv_at hl 0 rfl) ?_
  refine xg_6 cx hI dX0_sumAtOnce_18 ?_
  refine lv_if_ne (tgt := 26) cx.1 cx.2.1 dX0_sumAtOnce_21 (by decide) (fun c_2 => ?_) (fun c_2 => ?_)
  · refine lv_iconst (v := 0) cx.1 cx.2.1 dX0_sumAtOnce_26 (by decide) ?_
    refine lv_istore_n (lv' := [(2, .int 0), (0, .ref (ad 0)), (1, .int col)]) cx.1 cx.2.1 dX0_sumAtOnce_27 rfl hl (by decide) rfl (fun ls hl => ?_)
    refine lv_iconst (v := 0) cx.1 cx.2.1 dX0_sumAtOnce_28 (by decide) ?_
    refine lv_istore_n (lv' := [(3, .int 0), (2, .int 0), (0, .ref (ad 0)), (1, .int col)]) cx.1 cx.2.1 dX0_sumAtOnce_29 rfl hl (by decide) rfl (fun ls hl => ?_)
    refine k_loop 40 (fun i => (xw ad ca v)) (fun i => [(3, .int (nI i)), (2, .int (xSumAt v col i)), (0, .ref (ad 0)), (1, .int col)]) hI (lv_sub hl [0, 1, 2, 3] rfl) (fun H locs ls hI hl => ?_) (fun i hi H locs ls hI hl ih => ?_)
    · have hI : KI D A (xw ad ca v) s.heap H locs := hI
      have hl : lv_has ls 5 [(3, .int (nI 40)), (2, .int (xSumAt v col 40)), (0, .ref (ad 0)), (1, .int col)] := hl
      refine lv_iload_n cx.1 cx.2.1 dX0_sumAtOnce_30 rfl (lv_at hl 0 rfl) ?_
      refine lv_bipush (v := 40) cx.1 cx.2.1 dX0_sumAtOnce_31 (by decide) ?_
      refine lv_icmp_ge (tgt := 61) cx.1 cx.2.1 dX0_sumAtOnce_33 (by decide) (fun _ => ?_) (fun h9 => absurd (by decide : (40 : Int32) ≤ nI 40) h9)
      refine lv_iload_n cx.1 cx.2.1 dX0_sumAtOnce_61 rfl (lv_at hl 1 rfl) ?_
      exact ke_i cx hr hlk hI (Nat.zero_le _) (Nat.zero_le _) dX0_sumAtOnce_62 (congrArg (fun z => some (Value.int z)) (by simp [c_2])) rfl
    · have hI : KI D A (xw ad ca v) s.heap H locs := hI
      have hl : lv_has ls 5 [(3, .int (nI i)), (2, .int (xSumAt v col i)), (0, .ref (ad 0)), (1, .int col)] := hl
      refine lv_iload_n cx.1 cx.2.1 dX0_sumAtOnce_30 rfl (lv_at hl 0 rfl) ?_
      refine lv_bipush (v := 40) cx.1 cx.2.1 dX0_sumAtOnce_31 (by decide) ?_
      refine lv_icmp_ge (tgt := 61) cx.1 cx.2.1 dX0_sumAtOnce_33 (by decide) (fun h9 => absurd h9 (nI_ge hi (by decide))) (fun _ => ?_)
      refine lv_aload_n cx.1 cx.2.1 dX0_sumAtOnce_36 rfl (lv_at hl 2 rfl) ?_
      refine lv_iload_n cx.1 cx.2.1 dX0_sumAtOnce_37 rfl (lv_at hl 0 rfl) ?_
      refine lv_iload_n cx.1 cx.2.1 dX0_sumAtOnce_38 rfl (lv_at hl 3 rfl) ?_
      refine xc_i 2 cx (hl.1.trans hml.symm) (kX0_broughtColumn l D ca ad v (nI i) col (vp_in_nI hi (by decide))) hI wk_187 wk_184 wk_186 wq_3 ⟨rfl, by decide +kernel⟩ rfl ⟨rfl, rfl⟩ ⟨Nat.le_of_ble_eq_true rfl, Nat.le_of_ble_eq_true rfl⟩ (Nat.le_of_ble_eq_true rfl) dX0_sumAtOnce_39 ⟨Nat.zero_le _, Nat.zero_le _⟩ rfl (fun H locs hI => ?_)
      refine lv_istore (lv' := [(4, .int (xBro v (nI i) col)), (3, .int (nI i)), (2, .int (xSumAt v col i)), (0, .ref (ad 0)), (1, .int col)]) cx.1 cx.2.1 dX0_sumAtOnce_42 hl (by decide) rfl (fun ls hl => ?_)
      refine lv_iload cx.1 cx.2.1 dX0_sumAtOnce_44 (lv_at hl 0 rfl) ?_
      refine lv_iconst (v := (-1)) cx.1 cx.2.1 dX0_sumAtOnce_46 (by decide) ?_
      refine lv_icmp_eq (tgt := 55) cx.1 cx.2.1 dX0_sumAtOnce_47 (by decide) (fun c_5 => ?_) (fun c_5 => ?_)
      · refine lv_iinc (v := nI (i + 1)) (lv' := [(3, .int (nI (i + 1))), (4, .int (xBro v (nI i) col)), (2, .int (xSumAt v col i)), (0, .ref (ad 0)), (1, .int col)]) cx.1 cx.2.1 dX0_sumAtOnce_55 hl (k := 1) rfl (nI_1 i) (by decide) rfl (fun ls hl => ?_)
        refine lv_goto (tgt := 30) cx.1 cx.2.1 dX0_sumAtOnce_58 (by decide) ?_
        refine ih _ _ _ ?_ ?_
        · show KI D A (xw ad ca v) s.heap _ _
          exact hI
        · show lv_has _ _ [(3, .int (nI (i + 1))), (2, .int (xSumAt v col (i + 1))), (0, .ref (ad 0)), (1, .int col)]
          rw [show xSumAt v col (i + 1) = xSumAt v col i from (by simp [c_5, xSumAt_t, xSumAt_f])]
          exact lv_sub hl [0, 2, 3, 4] rfl
      · refine lv_iload_n cx.1 cx.2.1 dX0_sumAtOnce_50 rfl (lv_at hl 2 rfl) ?_
        refine lv_iload cx.1 cx.2.1 dX0_sumAtOnce_51 (lv_at hl 0 rfl) ?_
        refine lv_iadd cx.1 cx.2.1 dX0_sumAtOnce_53 ?_
        refine lv_istore_n (lv' := [(2, .int ((xSumAt v col i) + (xBro v (nI i) col))), (4, .int (xBro v (nI i) col)), (3, .int (nI i)), (0, .ref (ad 0)), (1, .int col)]) cx.1 cx.2.1 dX0_sumAtOnce_54 rfl hl (by decide) rfl (fun ls hl => ?_)
        refine lv_iinc (v := nI (i + 1)) (lv' := [(3, .int (nI (i + 1))), (2, .int ((xSumAt v col i) + (xBro v (nI i) col))), (4, .int (xBro v (nI i) col)), (0, .ref (ad 0)), (1, .int col)]) cx.1 cx.2.1 dX0_sumAtOnce_55 hl (k := 2) rfl (nI_1 i) (by decide) rfl (fun ls hl => ?_)
        refine lv_goto (tgt := 30) cx.1 cx.2.1 dX0_sumAtOnce_58 (by decide) ?_
        refine ih _ _ _ ?_ ?_
        · show KI D A (xw ad ca v) s.heap _ _
          exact hI
        · show lv_has _ _ [(3, .int (nI (i + 1))), (2, .int (xSumAt v col (i + 1))), (0, .ref (ad 0)), (1, .int col)]
          rw [show xSumAt v col (i + 1) = (xSumAt v col i) + (xBro v (nI i) col) from (by simp [c_5, xSumAt_t, xSumAt_f])]
          exact lv_sub hl [0, 1, 3, 4] rfl
  · refine lv_iconst (v := 0) cx.1 cx.2.1 dX0_sumAtOnce_24 (by decide) ?_
    exact ke_i cx hr hlk hI (Nat.zero_le _) (Nat.zero_le _) dX0_sumAtOnce_25 (congrArg (fun z => some (Value.int z)) (by simp [c_2])) rfl
set_option maxHeartbeats 4000000 in
set_option maxRecDepth 100000 in
theorem kS_setPace (l : Launch) (D : va_G) (ca : Nat → ClassId) (ad : Nat → Nat) (v : XS) (ch lag : Int32) (h1 : xWithin ch 1 40 = true) (h2 : xWithin lag 0 100 = true) : CM l yX0_setPace cX0_setPace 3 none (KR 1 22) D ca (xw ad ca v) [.ref (ad 0), .int ch, .int lag] none (xw ad ca (xUl (xUk v ch) lag)) := by
  refine CM.of (by decide) (Nat.le_of_ble_eq_true rfl) ?_
  intro p e s m below meth c A ls cx hml hr hlk hI hl
  have hl : lv_has ls 3 [(0, .ref (ad 0)), (1, .int ch), (2, .int lag)] := hl
  refine lv_iload_n cx.1 cx.2.1 dX0_setPace_0 rfl (lv_at hl 1 rfl) ?_
  refine lv_iconst (v := 1) cx.1 cx.2.1 dX0_setPace_1 (by decide) ?_
  refine lv_bipush (v := 40) cx.1 cx.2.1 dX0_setPace_2 (by decide) ?_
  refine ks_i 3 cx (hl.1.trans hml.symm) (kX0_isWithin l D ca ch 1 40) hI wk_92 wk_90 wk_91 wk_1 ⟨by decide, by decide, by decide +kernel⟩ rfl ⟨rfl, rfl⟩ ⟨Nat.le_of_ble_eq_true rfl, Nat.le_of_ble_eq_true rfl⟩ (Nat.le_of_ble_eq_true rfl) dX0_setPace_4 ⟨Nat.zero_le _, Nat.zero_le _⟩ rfl (fun H locs hI => ?_)
  refine kb_eq (tgt := 20) cx dX0_setPace_7 (by decide) (fun h9 => absurd h9 (by rw [h1]; decide)) (fun _ => ?_)
  refine lv_iload_n cx.1 cx.2.1 dX0_setPace_10 rfl (lv_at hl 2 rfl) ?_
  refine lv_iconst (v := 0) cx.1 cx.2.1 dX0_setPace_11 (by decide) ?_
  refine lv_bipush (v := 100) cx.1 cx.2.1 dX0_setPace_12 (by decide) ?_
  refine ks_i 3 cx (hl.1.trans hml.symm) (kX0_isWithin l D ca lag 0 100) hI wk_92 wk_90 wk_91 wk_1 ⟨by decide, by decide, by decide +kernel⟩ rfl ⟨rfl, rfl⟩ ⟨Nat.le_of_ble_eq_true rfl, Nat.le_of_ble_eq_true rfl⟩ (Nat.le_of_ble_eq_true rfl) dX0_setPace_14 ⟨Nat.zero_le _, Nat.zero_le _⟩ rfl (fun H locs hI => ?_)
  refine kb_ne (tgt := 30) cx dX0_setPace_17 (by decide) (fun _ => ?_) (fun h9 => absurd h9 (by rw [h2]; decide))
  refine lv_aload_n cx.1 cx.2.1 dX0_setPace_30 rfl (lv_at hl 0 rfl) ?_
  refine lv_iload_n cx.1 cx.2.1 dX0_setPace_31 rfl (lv_at hl 1 rfl) ?_
  refine xp_10 cx hI dX0_setPace_32 (fun H locs hI => ?_)
  refine lv_aload_n cx.1 cx.2.1 dX0_setPace_35 rfl (lv_at hl 0 rfl) ?_
  refine lv_iload_n cx.1 cx.2.1 dX0_setPace_36 rfl (lv_at hl 2 rfl) ?_
  refine xp_11 cx hI dX0_setPace_37 (fun H locs hI => ?_)
  exact ke_v cx hr hlk hI (Nat.zero_le _) (Nat.zero_le _) dX0_setPace_40 rfl rfl

set_option maxHeartbeats 4000000 in
set_option maxRecDepth 100000 in
theorem kX1_behind (l : Launch) (D : va_G) (ca : Nat → ClassId) (ad : Nat → Nat) (v : MS) : CM l yX1_behind cX1_behind 3 (some .int) (KR 3 68) D ca (mw ad ca v) [.ref (ad 0)] (some (.int (if mp v = 0 then 0 else mBehinds v 40))) (mw ad ca (mUz v 0)) := by
  refine CM.of (by decide) (Nat.le_of_ble_eq_true rfl) ?_
  intro p e s m below meth c A ls cx hml hr hlk hI hl
  have hl : lv_has ls 3 [(0, .ref (ad 0))] := hl
  refine lv_aload_n cx.1 cx.2.1 dX1_behind_0 rfl (lv_at hl 0 rfl) ?_
  refine lv_iconst (v := 0) cx.1 cx.2.1 dX1_behind_1 (by decide) ?_
  refine mp_12 cx hI dX1_behind_2 (fun H locs hI => ?_)
  rcases Decidable.em (mp v = 0) with hp | hp
  · refine lv_iconst (v := 0) cx.1 cx.2.1 dX1_behind_5 (by decide) ?_
    refine lv_istore_n (lv' := [(1, .int 0), (0, .ref (ad 0))]) cx.1 cx.2.1 dX1_behind_6 rfl hl (by decide) rfl (fun ls hl => ?_)
    refine lv_iconst (v := 0) cx.1 cx.2.1 dX1_behind_7 (by decide) ?_
    refine lv_istore_n (lv' := [(2, .int 0), (1, .int 0), (0, .ref (ad 0))]) cx.1 cx.2.1 dX1_behind_8 rfl hl (by decide) rfl (fun ls hl => ?_)
    refine lv_iload_n cx.1 cx.2.1 dX1_behind_9 rfl (lv_at hl 0 rfl) ?_
    refine lv_bipush (v := 40) cx.1 cx.2.1 dX1_behind_10 (by decide) ?_
    refine lv_icmp_ge (tgt := 44) cx.1 cx.2.1 dX1_behind_12 (by decide) (fun h9 => absurd h9 (by decide)) (fun _ => ?_)
    refine lv_aload_n cx.1 cx.2.1 dX1_behind_15 rfl (lv_at hl 2 rfl) ?_
    refine mg_4 cx hI dX1_behind_16 ?_
    refine k_top (y := mp v) rfl ?_
    refine lv_if_eq (tgt := 44) cx.1 cx.2.1 dX1_behind_19 (by decide) (fun _ => ?_) (fun h9 => absurd hp h9)
    refine lv_iload_n cx.1 cx.2.1 dX1_behind_44 rfl (lv_at hl 1 rfl) ?_
    exact ke_i cx hr hlk hI (Nat.zero_le _) (Nat.zero_le _) dX1_behind_45 (congrArg (fun z => some (Value.int z)) (by simp [hp])) rfl
  · refine lv_iconst (v := 0) cx.1 cx.2.1 dX1_behind_5 (by decide) ?_
    refine lv_istore_n (lv' := [(1, .int 0), (0, .ref (ad 0))]) cx.1 cx.2.1 dX1_behind_6 rfl hl (by decide) rfl (fun ls hl => ?_)
    refine lv_iconst (v := 0) cx.1 cx.2.1 dX1_behind_7 (by decide) ?_
    refine lv_istore_n (lv' := [(2, .int 0), (1, .int 0), (0, .ref (ad 0))]) cx.1 cx.2.1 dX1_behind_8 rfl hl (by decide) rfl (fun ls hl => ?_)
    refine k_loop 40 (fun i => (mw ad ca (mUz v 0))) (fun i => [(2, .int (nI i)), (1, .int (mBehinds v i)), (0, .ref (ad 0))]) hI (lv_sub hl [0, 1, 2] rfl) (fun H locs ls hI hl => ?_) (fun i hi H locs ls hI hl ih => ?_)
    · have hI : KI D A (mw ad ca (mUz v 0)) s.heap H locs := hI
      have hl : lv_has ls 3 [(2, .int (nI 40)), (1, .int (mBehinds v 40)), (0, .ref (ad 0))] := hl
      refine lv_iload_n cx.1 cx.2.1 dX1_behind_9 rfl (lv_at hl 0 rfl) ?_
      refine lv_bipush (v := 40) cx.1 cx.2.1 dX1_behind_10 (by decide) ?_
      refine lv_icmp_ge (tgt := 44) cx.1 cx.2.1 dX1_behind_12 (by decide) (fun _ => ?_) (fun h9 => absurd (by decide : (40 : Int32) ≤ nI 40) h9)
      refine lv_iload_n cx.1 cx.2.1 dX1_behind_44 rfl (lv_at hl 1 rfl) ?_
      exact ke_i cx hr hlk hI (Nat.zero_le _) (Nat.zero_le _) dX1_behind_45 (congrArg (fun z => some (Value.int z)) (by simp [hp])) rfl
    · have hI : KI D A (mw ad ca (mUz v 0)) s.heap H locs := hI
      have hl : lv_has ls 3 [(2, .int (nI i)), (1, .int (mBehinds v i)), (0, .ref (ad 0))] := hl
      refine lv_iload_n cx.1 cx.2.1 dX1_behind_9 rfl (lv_at hl 0 rfl) ?_
      refine lv_bipush (v := 40) cx.1 cx.2.1 dX1_behind_10 (by decide) ?_
      refine lv_icmp_ge (tgt := 44) cx.1 cx.2.1 dX1_behind_12 (by decide) (fun h9 => absurd h9 (nI_ge hi (by decide))) (fun _ => ?_)
      refine lv_aload_n cx.1 cx.2.1 dX1_behind_15 rfl (lv_at hl 2 rfl) ?_
      refine mg_4 cx hI dX1_behind_16 ?_
      refine k_top (y := mp v) rfl ?_
      refine lv_if_eq (tgt := 44) cx.1 cx.2.1 dX1_behind_19 (by decide) (fun h9 => absurd h9 hp) (fun _ => ?_)
      refine lv_iload_n cx.1 cx.2.1 dX1_behind_22 rfl (lv_at hl 1 rfl) ?_
      refine lv_aload_n cx.1 cx.2.1 dX1_behind_23 rfl (lv_at hl 2 rfl) ?_
      refine lv_iload_n cx.1 cx.2.1 dX1_behind_24 rfl (lv_at hl 0 rfl) ?_
      refine mc_i 1 cx (hl.1.trans hml.symm) (kX1_isEven l D ca ad (mUz v 0) (nI i) (vp_in_nI hi (by decide))) hI wk_626 wk_623 wk_625 wq_32 ⟨rfl, by decide +kernel⟩ rfl ⟨rfl, rfl⟩ ⟨Nat.le_of_ble_eq_true rfl, Nat.le_of_ble_eq_true rfl⟩ (Nat.le_of_ble_eq_true rfl) dX1_behind_25 ⟨Nat.zero_le _, Nat.zero_le _⟩ rfl (fun H locs hI => ?_)
      refine k_top (y := b2i (mEven v (nI i))) rfl ?_
      refine k_join (D := D) (A := A) 36 (mw ad ca (mUz v 0)) [.int (b2i (!mEven v (nI i))), .int (mBehinds v i)] (fun H locs hI => ?_) (fun hj36 => ?_)
      · refine lv_iadd cx.1 cx.2.1 dX1_behind_36 ?_
        refine lv_istore_n (lv' := [(1, .int ((mBehinds v i) + (b2i (!mEven v (nI i))))), (2, .int (nI i)), (0, .ref (ad 0))]) cx.1 cx.2.1 dX1_behind_37 rfl hl (by decide) rfl (fun ls hl => ?_)
        refine lv_iinc (v := nI (i + 1)) (lv' := [(2, .int (nI (i + 1))), (1, .int ((mBehinds v i) + (b2i (!mEven v (nI i))))), (0, .ref (ad 0))]) cx.1 cx.2.1 dX1_behind_38 hl (k := 1) rfl (nI_1 i) (by decide) rfl (fun ls hl => ?_)
        refine lv_goto (tgt := 9) cx.1 cx.2.1 dX1_behind_41 (by decide) ?_
        refine ih _ _ _ ?_ ?_
        · show KI D A (mw ad ca (mUz v 0)) s.heap _ _
          exact hI
        · show lv_has _ _ [(2, .int (nI (i + 1))), (1, .int (mBehinds v (i + 1))), (0, .ref (ad 0))]
          rw [show mBehinds v (i + 1) = (mBehinds v i) + (b2i (!mEven v (nI i))) from (by simp [mBehinds, kSum])]
          exact lv_sub hl [0, 1, 2] rfl
      ·
        refine kb_eq (tgt := 35) cx dX1_behind_28 (by decide) (fun c_6 => ?_) (fun c_6 => ?_)
        · refine lv_iconst (v := 1) cx.1 cx.2.1 dX1_behind_35 (by decide) ?_
          exact k_top (by first | (simp [hp, c_6, b2i]; done) | (simp [hp, b2i]; exact fun h => absurd c_6 h)) (hj36 _ _ hI)
        · refine lv_iconst (v := 0) cx.1 cx.2.1 dX1_behind_31 (by decide) ?_
          refine lv_goto (tgt := 36) cx.1 cx.2.1 dX1_behind_32 (by decide) ?_
          exact k_top (by first | (simp [hp, c_6, b2i]; done) | (simp [hp, b2i]; exact fun h => absurd c_6 h)) (hj36 _ _ hI)
set_option maxHeartbeats 4000000 in
set_option maxRecDepth 100000 in
theorem kX1_sum (l : Launch) (D : va_G) (ca : Nat → ClassId) (ad : Nat → Nat) (v : MS) (col : Int32) : CM l yX1_sum cX1_sum 4 (some .int) (KR 2 42) D ca (mw ad ca v) [.ref (ad 0), .int col] (some (.int (if mfCol col = 0 then mSum v col 40 else 0))) (mw ad ca (mUz v (mfCol col))) := by
  refine CM.of (by decide) (Nat.le_of_ble_eq_true rfl) ?_
  intro p e s m below meth c A ls cx hml hr hlk hI hl
  have hl : lv_has ls 4 [(0, .ref (ad 0)), (1, .int col)] := hl
  refine lv_iconst (v := 0) cx.1 cx.2.1 dX1_sum_0 (by decide) ?_
  refine lv_istore_n (lv' := [(2, .int 0), (0, .ref (ad 0)), (1, .int col)]) cx.1 cx.2.1 dX1_sum_1 rfl hl (by decide) rfl (fun ls hl => ?_)
  rcases Bool.eq_false_or_eq_true (xWithin col 0 2) with hz | hz
  · refine lv_iconst (v := 0) cx.1 cx.2.1 dX1_sum_2 (by decide) ?_
    refine lv_istore_n (lv' := [(3, .int 0), (2, .int 0), (0, .ref (ad 0)), (1, .int col)]) cx.1 cx.2.1 dX1_sum_3 rfl hl (by decide) rfl (fun ls hl => ?_)
    refine k_loop 40 (fun i => (mw ad ca v)) (fun i => [(3, .int (nI i)), (2, .int (mSum v col i)), (0, .ref (ad 0)), (1, .int col)]) hI (lv_sub hl [0, 1, 2, 3] rfl) (fun H locs ls hI hl => ?_) (fun i hi H locs ls hI hl ih => ?_)
    · have hI : KI D A (mw ad ca v) s.heap H locs := hI
      have hl : lv_has ls 4 [(3, .int (nI 40)), (2, .int (mSum v col 40)), (0, .ref (ad 0)), (1, .int col)] := hl
      refine lv_iload_n cx.1 cx.2.1 dX1_sum_4 rfl (lv_at hl 0 rfl) ?_
      refine lv_bipush (v := 40) cx.1 cx.2.1 dX1_sum_5 (by decide) ?_
      refine lv_icmp_ge (tgt := 49) cx.1 cx.2.1 dX1_sum_7 (by decide) (fun _ => ?_) (fun h9 => absurd (by decide : (40 : Int32) ≤ nI 40) h9)
      refine lv_aload_n cx.1 cx.2.1 dX1_sum_49 rfl (lv_at hl 2 rfl) ?_
      refine k_join (D := D) (A := A) 62 (mw ad ca v) [.int (mfCol col), .ref (ad 0)] (fun H locs hI => ?_) (fun hj62 => ?_)
      · refine mc_i 1 cx (hl.1.trans hml.symm) (kX1_can l D ca ad v (mfCol col)) hI wk_512 wk_509 wk_511 wq_24 ⟨rfl, by decide +kernel⟩ rfl ⟨rfl, rfl⟩ ⟨Nat.le_of_ble_eq_true rfl, Nat.le_of_ble_eq_true rfl⟩ (Nat.le_of_ble_eq_true rfl) dX1_sum_62 ⟨Nat.zero_le _, Nat.zero_le _⟩ rfl (fun H locs hI => ?_)
        refine kb_eq (tgt := 72) cx dX1_sum_65 (by decide) (fun h9 => absurd h9 (by simp [mfCol, hz])) (fun _ => ?_)
        refine lv_iload_n cx.1 cx.2.1 dX1_sum_68 rfl (lv_at hl 1 rfl) ?_
        refine lv_goto (tgt := 73) cx.1 cx.2.1 dX1_sum_69 (by decide) ?_
        exact ke_i cx hr hlk hI (Nat.zero_le _) (Nat.zero_le _) dX1_sum_73 (congrArg (fun z => some (Value.int z)) (by simp [mfCol, hz])) rfl
      ·
        refine lv_iload_n cx.1 cx.2.1 dX1_sum_50 rfl (lv_at hl 3 rfl) ?_
        refine ks_i 1 cx (hl.1.trans hml.symm) (kX1_isColumn l D ca col) hI wk_610 wk_608 wk_609 wk_3 ⟨by decide, by decide, by decide +kernel⟩ rfl ⟨rfl, rfl⟩ ⟨Nat.le_of_ble_eq_true rfl, Nat.le_of_ble_eq_true rfl⟩ (Nat.le_of_ble_eq_true rfl) dX1_sum_51 ⟨Nat.zero_le _, Nat.zero_le _⟩ rfl (fun H locs hI => ?_)
        refine kb_eq (tgt := 61) cx dX1_sum_54 (by decide) (fun h9 => absurd h9 (by rw [hz]; decide)) (fun _ => ?_)
        refine lv_iconst (v := 0) cx.1 cx.2.1 dX1_sum_57 (by decide) ?_
        refine lv_goto (tgt := 62) cx.1 cx.2.1 dX1_sum_58 (by decide) ?_
        exact k_top (by first | (simp [mfCol, hz, mfCol]; done) | (simp [mfCol, mfCol]; exact fun h => absurd hz h)) (hj62 _ _ hI)
    · have hI : KI D A (mw ad ca v) s.heap H locs := hI
      have hl : lv_has ls 4 [(3, .int (nI i)), (2, .int (mSum v col i)), (0, .ref (ad 0)), (1, .int col)] := hl
      refine lv_iload_n cx.1 cx.2.1 dX1_sum_4 rfl (lv_at hl 0 rfl) ?_
      refine lv_bipush (v := 40) cx.1 cx.2.1 dX1_sum_5 (by decide) ?_
      refine lv_icmp_ge (tgt := 49) cx.1 cx.2.1 dX1_sum_7 (by decide) (fun h9 => absurd h9 (nI_ge hi (by decide))) (fun _ => ?_)
      refine lv_iload_n cx.1 cx.2.1 dX1_sum_10 rfl (lv_at hl 3 rfl) ?_
      refine ks_i 1 cx (hl.1.trans hml.symm) (kX1_isColumn l D ca col) hI wk_610 wk_608 wk_609 wk_3 ⟨by decide, by decide, by decide +kernel⟩ rfl ⟨rfl, rfl⟩ ⟨Nat.le_of_ble_eq_true rfl, Nat.le_of_ble_eq_true rfl⟩ (Nat.le_of_ble_eq_true rfl) dX1_sum_11 ⟨Nat.zero_le _, Nat.zero_le _⟩ rfl (fun H locs hI => ?_)
      refine kb_eq (tgt := 49) cx dX1_sum_14 (by decide) (fun h9 => absurd h9 (by rw [hz]; decide)) (fun _ => ?_)
      refine lv_iload_n cx.1 cx.2.1 dX1_sum_17 rfl (lv_at hl 1 rfl) ?_
      refine lv_aload_n cx.1 cx.2.1 dX1_sum_18 rfl (lv_at hl 2 rfl) ?_
      refine mg_2 cx hI dX1_sum_19 ?_
      refine lv_iload_n cx.1 cx.2.1 dX1_sum_22 rfl (lv_at hl 0 rfl) ?_
      refine ma_H cx hI (vp_in_nI hi (by decide)) dX1_sum_23 ?_
      refine k_join (D := D) (A := A) 41 (mw ad ca v) [.int (mSumI v col i), .int (mSum v col i)] (fun H locs hI => ?_) (fun hj41 => ?_)
      · refine lv_iadd cx.1 cx.2.1 dX1_sum_41 ?_
        refine lv_istore_n (lv' := [(2, .int ((mSum v col i) + (mSumI v col i))), (3, .int (nI i)), (0, .ref (ad 0)), (1, .int col)]) cx.1 cx.2.1 dX1_sum_42 rfl hl (by decide) rfl (fun ls hl => ?_)
        refine lv_iinc (v := nI (i + 1)) (lv' := [(3, .int (nI (i + 1))), (2, .int ((mSum v col i) + (mSumI v col i))), (0, .ref (ad 0)), (1, .int col)]) cx.1 cx.2.1 dX1_sum_43 hl (k := 1) rfl (nI_1 i) (by decide) rfl (fun ls hl => ?_)
        refine lv_goto (tgt := 4) cx.1 cx.2.1 dX1_sum_46 (by decide) ?_
        refine ih _ _ _ ?_ ?_
        · show KI D A (mw ad ca v) s.heap _ _
          exact hI
        · show lv_has _ _ [(3, .int (nI (i + 1))), (2, .int (mSum v col (i + 1))), (0, .ref (ad 0)), (1, .int col)]
          rw [show mSum v col (i + 1) = (mSum v col i) + (mSumI v col i) from (by simp [mfCol, mSum, kSum])]
          exact lv_sub hl [0, 1, 2, 3] rfl
      ·
        refine lv_if_eq (tgt := 40) cx.1 cx.2.1 dX1_sum_24 (by decide) (fun c_6 => ?_) (fun c_6 => ?_)
        · refine lv_iconst (v := 0) cx.1 cx.2.1 dX1_sum_40 (by decide) ?_
          exact k_top (by first | (simp [mfCol, hz, c_6, mSumI]; done) | (simp [mfCol, hz, mSumI]; exact fun h => absurd c_6 h)) (hj41 _ _ hI)
        · refine lv_aload_n cx.1 cx.2.1 dX1_sum_27 rfl (lv_at hl 2 rfl) ?_
          refine mg_1 cx hI dX1_sum_28 ?_
          refine lv_iconst (v := 3) cx.1 cx.2.1 dX1_sum_31 (by decide) ?_
          refine lv_iload_n cx.1 cx.2.1 dX1_sum_32 rfl (lv_at hl 0 rfl) ?_
          refine lv_imul cx.1 cx.2.1 dX1_sum_33 ?_
          refine lv_iload_n cx.1 cx.2.1 dX1_sum_34 rfl (lv_at hl 3 rfl) ?_
          refine lv_iadd cx.1 cx.2.1 dX1_sum_35 ?_
          refine ma_S cx hI (kidx (vp_in_nI hi (by decide)) (xCol_in hz)) dX1_sum_36 ?_
          refine lv_goto (tgt := 41) cx.1 cx.2.1 dX1_sum_37 (by decide) ?_
          exact k_top (by first | (simp [mfCol, hz, c_6, mSumI]; done) | (simp [mfCol, hz, mSumI]; exact fun h => absurd c_6 h)) (hj41 _ _ hI)
  · refine lv_iconst (v := 0) cx.1 cx.2.1 dX1_sum_2 (by decide) ?_
    refine lv_istore_n (lv' := [(3, .int 0), (2, .int 0), (0, .ref (ad 0)), (1, .int col)]) cx.1 cx.2.1 dX1_sum_3 rfl hl (by decide) rfl (fun ls hl => ?_)
    refine lv_iload_n cx.1 cx.2.1 dX1_sum_4 rfl (lv_at hl 0 rfl) ?_
    refine lv_bipush (v := 40) cx.1 cx.2.1 dX1_sum_5 (by decide) ?_
    refine lv_icmp_ge (tgt := 49) cx.1 cx.2.1 dX1_sum_7 (by decide) (fun h9 => absurd h9 (by decide)) (fun _ => ?_)
    refine lv_iload_n cx.1 cx.2.1 dX1_sum_10 rfl (lv_at hl 3 rfl) ?_
    refine ks_i 1 cx (hl.1.trans hml.symm) (kX1_isColumn l D ca col) hI wk_610 wk_608 wk_609 wk_3 ⟨by decide, by decide, by decide +kernel⟩ rfl ⟨rfl, rfl⟩ ⟨Nat.le_of_ble_eq_true rfl, Nat.le_of_ble_eq_true rfl⟩ (Nat.le_of_ble_eq_true rfl) dX1_sum_11 ⟨Nat.zero_le _, Nat.zero_le _⟩ rfl (fun H locs hI => ?_)
    refine kb_eq (tgt := 49) cx dX1_sum_14 (by decide) (fun _ => ?_) (fun h9 => absurd h9 (by rw [hz]; decide))
    refine lv_aload_n cx.1 cx.2.1 dX1_sum_49 rfl (lv_at hl 2 rfl) ?_
    refine k_join (D := D) (A := A) 62 (mw ad ca v) [.int (mfCol col), .ref (ad 0)] (fun H locs hI => ?_) (fun hj62 => ?_)
    · refine mc_i 1 cx (hl.1.trans hml.symm) (kX1_can l D ca ad v (mfCol col)) hI wk_512 wk_509 wk_511 wq_24 ⟨rfl, by decide +kernel⟩ rfl ⟨rfl, rfl⟩ ⟨Nat.le_of_ble_eq_true rfl, Nat.le_of_ble_eq_true rfl⟩ (Nat.le_of_ble_eq_true rfl) dX1_sum_62 ⟨Nat.zero_le _, Nat.zero_le _⟩ rfl (fun H locs hI => ?_)
      refine kb_eq (tgt := 72) cx dX1_sum_65 (by decide) (fun _ => ?_) (fun h9 => absurd h9 (by simp [mfCol, hz]))
      refine lv_iconst (v := 0) cx.1 cx.2.1 dX1_sum_72 (by decide) ?_
      exact ke_i cx hr hlk hI (Nat.zero_le _) (Nat.zero_le _) dX1_sum_73 (congrArg (fun z => some (Value.int z)) (by simp [mfCol, hz])) rfl
    ·
      refine lv_iload_n cx.1 cx.2.1 dX1_sum_50 rfl (lv_at hl 3 rfl) ?_
      refine ks_i 1 cx (hl.1.trans hml.symm) (kX1_isColumn l D ca col) hI wk_610 wk_608 wk_609 wk_3 ⟨by decide, by decide, by decide +kernel⟩ rfl ⟨rfl, rfl⟩ ⟨Nat.le_of_ble_eq_true rfl, Nat.le_of_ble_eq_true rfl⟩ (Nat.le_of_ble_eq_true rfl) dX1_sum_51 ⟨Nat.zero_le _, Nat.zero_le _⟩ rfl (fun H locs hI => ?_)
      refine kb_eq (tgt := 61) cx dX1_sum_54 (by decide) (fun _ => ?_) (fun h9 => absurd h9 (by rw [hz]; decide))
      refine lv_iconst (v := 1) cx.1 cx.2.1 dX1_sum_61 (by decide) ?_
      exact k_top (by first | (simp [mfCol, hz, mfCol]; done) | (simp [mfCol, mfCol]; exact fun h => absurd hz h)) (hj62 _ _ hI)
set_option maxHeartbeats 4000000 in
set_option maxRecDepth 100000 in
theorem kX1_sumAtOnce (l : Launch) (D : va_G) (ca : Nat → ClassId) (ad : Nat → Nat) (v : MS) (col : Int32) : CM l yX1_sumAtOnce cX1_sumAtOnce 4 (some .int) (KR 2 44) D ca (mw ad ca v) [.ref (ad 0), .int col] (some (.int (if mfCol col = 0 then (if mp v = 0 then 0 else mSumAt v col 40) else 0))) (mw ad ca (mUz v (mfCol col))) := by
  refine CM.of (by decide) (Nat.le_of_ble_eq_true rfl) ?_
  intro p e s m below meth c A ls cx hml hr hlk hI hl
  have hl : lv_has ls 4 [(0, .ref (ad 0)), (1, .int col)] := hl
  refine lv_iconst (v := 0) cx.1 cx.2.1 dX1_sumAtOnce_0 (by decide) ?_
  refine lv_istore_n (lv' := [(2, .int 0), (0, .ref (ad 0)), (1, .int col)]) cx.1 cx.2.1 dX1_sumAtOnce_1 rfl hl (by decide) rfl (fun ls hl => ?_)
  rcases Bool.eq_false_or_eq_true (xWithin col 0 2) with hz | hz
  · rcases Decidable.em (mp v = 0) with hp | hp
    · refine lv_iconst (v := 0) cx.1 cx.2.1 dX1_sumAtOnce_2 (by decide) ?_
      refine lv_istore_n (lv' := [(3, .int 0), (2, .int 0), (0, .ref (ad 0)), (1, .int col)]) cx.1 cx.2.1 dX1_sumAtOnce_3 rfl hl (by decide) rfl (fun ls hl => ?_)
      refine lv_iload_n cx.1 cx.2.1 dX1_sumAtOnce_4 rfl (lv_at hl 0 rfl) ?_
      refine lv_bipush (v := 40) cx.1 cx.2.1 dX1_sumAtOnce_5 (by decide) ?_
      refine lv_icmp_ge (tgt := 71) cx.1 cx.2.1 dX1_sumAtOnce_7 (by decide) (fun h9 => absurd h9 (by decide)) (fun _ => ?_)
      refine lv_iload_n cx.1 cx.2.1 dX1_sumAtOnce_10 rfl (lv_at hl 3 rfl) ?_
      refine ks_i 1 cx (hl.1.trans hml.symm) (kX1_isColumn l D ca col) hI wk_610 wk_608 wk_609 wk_3 ⟨by decide, by decide, by decide +kernel⟩ rfl ⟨rfl, rfl⟩ ⟨Nat.le_of_ble_eq_true rfl, Nat.le_of_ble_eq_true rfl⟩ (Nat.le_of_ble_eq_true rfl) dX1_sumAtOnce_11 ⟨Nat.zero_le _, Nat.zero_le _⟩ rfl (fun H locs hI => ?_)
      refine kb_eq (tgt := 71) cx dX1_sumAtOnce_14 (by decide) (fun h9 => absurd h9 (by rw [hz]; decide)) (fun _ => ?_)
      refine lv_aload_n cx.1 cx.2.1 dX1_sumAtOnce_17 rfl (lv_at hl 2 rfl) ?_
      refine mg_4 cx hI dX1_sumAtOnce_18 ?_
      refine lv_if_eq (tgt := 71) cx.1 cx.2.1 dX1_sumAtOnce_21 (by decide) (fun _ => ?_) (fun h9 => absurd hp h9)
      refine lv_aload_n cx.1 cx.2.1 dX1_sumAtOnce_71 rfl (lv_at hl 2 rfl) ?_
      refine k_join (D := D) (A := A) 84 (mw ad ca v) [.int (mfCol col), .ref (ad 0)] (fun H locs hI => ?_) (fun hj84 => ?_)
      · refine mc_i 1 cx (hl.1.trans hml.symm) (kX1_can l D ca ad v (mfCol col)) hI wk_512 wk_509 wk_511 wq_24 ⟨rfl, by decide +kernel⟩ rfl ⟨rfl, rfl⟩ ⟨Nat.le_of_ble_eq_true rfl, Nat.le_of_ble_eq_true rfl⟩ (Nat.le_of_ble_eq_true rfl) dX1_sumAtOnce_84 ⟨Nat.zero_le _, Nat.zero_le _⟩ rfl (fun H locs hI => ?_)
        refine kb_eq (tgt := 94) cx dX1_sumAtOnce_87 (by decide) (fun h9 => absurd h9 (by simp [mfCol, hz])) (fun _ => ?_)
        refine lv_iload_n cx.1 cx.2.1 dX1_sumAtOnce_90 rfl (lv_at hl 1 rfl) ?_
        refine lv_goto (tgt := 95) cx.1 cx.2.1 dX1_sumAtOnce_91 (by decide) ?_
        exact ke_i cx hr hlk hI (Nat.zero_le _) (Nat.zero_le _) dX1_sumAtOnce_95 (congrArg (fun z => some (Value.int z)) (by simp [mfCol, hz, hp])) rfl
      ·
        refine lv_iload_n cx.1 cx.2.1 dX1_sumAtOnce_72 rfl (lv_at hl 3 rfl) ?_
        refine ks_i 1 cx (hl.1.trans hml.symm) (kX1_isColumn l D ca col) hI wk_610 wk_608 wk_609 wk_3 ⟨by decide, by decide, by decide +kernel⟩ rfl ⟨rfl, rfl⟩ ⟨Nat.le_of_ble_eq_true rfl, Nat.le_of_ble_eq_true rfl⟩ (Nat.le_of_ble_eq_true rfl) dX1_sumAtOnce_73 ⟨Nat.zero_le _, Nat.zero_le _⟩ rfl (fun H locs hI => ?_)
        refine kb_eq (tgt := 83) cx dX1_sumAtOnce_76 (by decide) (fun h9 => absurd h9 (by rw [hz]; decide)) (fun _ => ?_)
        refine lv_iconst (v := 0) cx.1 cx.2.1 dX1_sumAtOnce_79 (by decide) ?_
        refine lv_goto (tgt := 84) cx.1 cx.2.1 dX1_sumAtOnce_80 (by decide) ?_
        exact k_top (by first | (simp [mfCol, hz, hp, mfCol]; done) | (simp [mfCol, hz, mfCol]; exact fun h => absurd hp h)) (hj84 _ _ hI)
    · refine lv_iconst (v := 0) cx.1 cx.2.1 dX1_sumAtOnce_2 (by decide) ?_
      refine lv_istore_n (lv' := [(3, .int 0), (2, .int 0), (0, .ref (ad 0)), (1, .int col)]) cx.1 cx.2.1 dX1_sumAtOnce_3 rfl hl (by decide) rfl (fun ls hl => ?_)
      refine k_loop 40 (fun i => (mw ad ca v)) (fun i => [(3, .int (nI i)), (2, .int (mSumAt v col i)), (0, .ref (ad 0)), (1, .int col)]) hI (lv_sub hl [0, 1, 2, 3] rfl) (fun H locs ls hI hl => ?_) (fun i hi H locs ls hI hl ih => ?_)
      · have hI : KI D A (mw ad ca v) s.heap H locs := hI
        have hl : lv_has ls 4 [(3, .int (nI 40)), (2, .int (mSumAt v col 40)), (0, .ref (ad 0)), (1, .int col)] := hl
        refine lv_iload_n cx.1 cx.2.1 dX1_sumAtOnce_4 rfl (lv_at hl 0 rfl) ?_
        refine lv_bipush (v := 40) cx.1 cx.2.1 dX1_sumAtOnce_5 (by decide) ?_
        refine lv_icmp_ge (tgt := 71) cx.1 cx.2.1 dX1_sumAtOnce_7 (by decide) (fun _ => ?_) (fun h9 => absurd (by decide : (40 : Int32) ≤ nI 40) h9)
        refine lv_aload_n cx.1 cx.2.1 dX1_sumAtOnce_71 rfl (lv_at hl 2 rfl) ?_
        refine k_join (D := D) (A := A) 84 (mw ad ca v) [.int (mfCol col), .ref (ad 0)] (fun H locs hI => ?_) (fun hj84 => ?_)
        · refine mc_i 1 cx (hl.1.trans hml.symm) (kX1_can l D ca ad v (mfCol col)) hI wk_512 wk_509 wk_511 wq_24 ⟨rfl, by decide +kernel⟩ rfl ⟨rfl, rfl⟩ ⟨Nat.le_of_ble_eq_true rfl, Nat.le_of_ble_eq_true rfl⟩ (Nat.le_of_ble_eq_true rfl) dX1_sumAtOnce_84 ⟨Nat.zero_le _, Nat.zero_le _⟩ rfl (fun H locs hI => ?_)
          refine kb_eq (tgt := 94) cx dX1_sumAtOnce_87 (by decide) (fun h9 => absurd h9 (by simp [mfCol, hz])) (fun _ => ?_)
          refine lv_iload_n cx.1 cx.2.1 dX1_sumAtOnce_90 rfl (lv_at hl 1 rfl) ?_
          refine lv_goto (tgt := 95) cx.1 cx.2.1 dX1_sumAtOnce_91 (by decide) ?_
          exact ke_i cx hr hlk hI (Nat.zero_le _) (Nat.zero_le _) dX1_sumAtOnce_95 (congrArg (fun z => some (Value.int z)) (by simp [mfCol, hz, hp])) rfl
        ·
          refine lv_iload_n cx.1 cx.2.1 dX1_sumAtOnce_72 rfl (lv_at hl 3 rfl) ?_
          refine ks_i 1 cx (hl.1.trans hml.symm) (kX1_isColumn l D ca col) hI wk_610 wk_608 wk_609 wk_3 ⟨by decide, by decide, by decide +kernel⟩ rfl ⟨rfl, rfl⟩ ⟨Nat.le_of_ble_eq_true rfl, Nat.le_of_ble_eq_true rfl⟩ (Nat.le_of_ble_eq_true rfl) dX1_sumAtOnce_73 ⟨Nat.zero_le _, Nat.zero_le _⟩ rfl (fun H locs hI => ?_)
          refine kb_eq (tgt := 83) cx dX1_sumAtOnce_76 (by decide) (fun h9 => absurd h9 (by rw [hz]; decide)) (fun _ => ?_)
          refine lv_iconst (v := 0) cx.1 cx.2.1 dX1_sumAtOnce_79 (by decide) ?_
          refine lv_goto (tgt := 84) cx.1 cx.2.1 dX1_sumAtOnce_80 (by decide) ?_
          exact k_top (by first | (simp [mfCol, hz, hp, mfCol]; done) | (simp [mfCol, hz, mfCol]; exact fun h => absurd hp h)) (hj84 _ _ hI)
      · have hI : KI D A (mw ad ca v) s.heap H locs := hI
        have hl : lv_has ls 4 [(3, .int (nI i)), (2, .int (mSumAt v col i)), (0, .ref (ad 0)), (1, .int col)] := hl
        refine lv_iload_n cx.1 cx.2.1 dX1_sumAtOnce_4 rfl (lv_at hl 0 rfl) ?_
        refine lv_bipush (v := 40) cx.1 cx.2.1 dX1_sumAtOnce_5 (by decide) ?_
        refine lv_icmp_ge (tgt := 71) cx.1 cx.2.1 dX1_sumAtOnce_7 (by decide) (fun h9 => absurd h9 (nI_ge hi (by decide))) (fun _ => ?_)
        refine lv_iload_n cx.1 cx.2.1 dX1_sumAtOnce_10 rfl (lv_at hl 3 rfl) ?_
        refine ks_i 1 cx (hl.1.trans hml.symm) (kX1_isColumn l D ca col) hI wk_610 wk_608 wk_609 wk_3 ⟨by decide, by decide, by decide +kernel⟩ rfl ⟨rfl, rfl⟩ ⟨Nat.le_of_ble_eq_true rfl, Nat.le_of_ble_eq_true rfl⟩ (Nat.le_of_ble_eq_true rfl) dX1_sumAtOnce_11 ⟨Nat.zero_le _, Nat.zero_le _⟩ rfl (fun H locs hI => ?_)
        refine kb_eq (tgt := 71) cx dX1_sumAtOnce_14 (by decide) (fun h9 => absurd h9 (by rw [hz]; decide)) (fun _ => ?_)
        refine lv_aload_n cx.1 cx.2.1 dX1_sumAtOnce_17 rfl (lv_at hl 2 rfl) ?_
        refine mg_4 cx hI dX1_sumAtOnce_18 ?_
        refine lv_if_eq (tgt := 71) cx.1 cx.2.1 dX1_sumAtOnce_21 (by decide) (fun h9 => absurd h9 hp) (fun _ => ?_)
        refine lv_iload_n cx.1 cx.2.1 dX1_sumAtOnce_24 rfl (lv_at hl 1 rfl) ?_
        refine k_join (D := D) (A := A) 63 (mw ad ca v) [.int (mSumAI v col i), .int (mSumAt v col i)] (fun H locs hI => ?_) (fun hj63 => ?_)
        · refine lv_iadd cx.1 cx.2.1 dX1_sumAtOnce_63 ?_
          refine lv_istore_n (lv' := [(2, .int ((mSumAt v col i) + (mSumAI v col i))), (3, .int (nI i)), (0, .ref (ad 0)), (1, .int col)]) cx.1 cx.2.1 dX1_sumAtOnce_64 rfl hl (by decide) rfl (fun ls hl => ?_)
          refine lv_iinc (v := nI (i + 1)) (lv' := [(3, .int (nI (i + 1))), (2, .int ((mSumAt v col i) + (mSumAI v col i))), (0, .ref (ad 0)), (1, .int col)]) cx.1 cx.2.1 dX1_sumAtOnce_65 hl (k := 1) rfl (nI_1 i) (by decide) rfl (fun ls hl => ?_)
          refine lv_goto (tgt := 4) cx.1 cx.2.1 dX1_sumAtOnce_68 (by decide) ?_
          refine ih _ _ _ ?_ ?_
          · show KI D A (mw ad ca v) s.heap _ _
            exact hI
          · show lv_has _ _ [(3, .int (nI (i + 1))), (2, .int (mSumAt v col (i + 1))), (0, .ref (ad 0)), (1, .int col)]
            rw [show mSumAt v col (i + 1) = (mSumAt v col i) + (mSumAI v col i) from (by simp [mfCol, mSumAt, kSum])]
            exact lv_sub hl [0, 1, 2, 3] rfl
        ·
          refine lv_aload_n cx.1 cx.2.1 dX1_sumAtOnce_25 rfl (lv_at hl 2 rfl) ?_
          refine mg_0 cx hI dX1_sumAtOnce_26 ?_
          refine lv_iload_n cx.1 cx.2.1 dX1_sumAtOnce_29 rfl (lv_at hl 0 rfl) ?_
          refine ma_O cx hI (vp_in_nI hi (by decide)) dX1_sumAtOnce_30 ?_
          refine lv_iconst (v := (-1)) cx.1 cx.2.1 dX1_sumAtOnce_31 (by decide) ?_
          refine lv_icmp_eq (tgt := 62) cx.1 cx.2.1 dX1_sumAtOnce_32 (by decide) (fun c_12 => ?_) (fun c_12 => ?_)
          · refine lv_iconst (v := 0) cx.1 cx.2.1 dX1_sumAtOnce_62 (by decide) ?_
            exact k_top (by first | (simp [mfCol, hz, hp, c_12, mSumAI, mDue]; done) | (simp [mfCol, hz, hp, mSumAI, mDue]; exact fun h => absurd c_12 h)) (hj63 _ _ hI)
          · refine lv_aload_n cx.1 cx.2.1 dX1_sumAtOnce_35 rfl (lv_at hl 2 rfl) ?_
            refine lv_aload_n cx.1 cx.2.1 dX1_sumAtOnce_36 rfl (lv_at hl 2 rfl) ?_
            refine mg_0 cx hI dX1_sumAtOnce_37 ?_
            refine lv_iload_n cx.1 cx.2.1 dX1_sumAtOnce_40 rfl (lv_at hl 0 rfl) ?_
            refine ma_O cx hI (vp_in_nI hi (by decide)) dX1_sumAtOnce_41 ?_
            refine mc_i 1 cx (hl.1.trans hml.symm) (kX1_suits l D ca ad v (mO v (nI i).toNatClampNeg)) hI wk_504 wk_501 wk_503 wq_22 ⟨rfl, by decide +kernel⟩ rfl ⟨rfl, rfl⟩ ⟨Nat.le_of_ble_eq_true rfl, Nat.le_of_ble_eq_true rfl⟩ (Nat.le_of_ble_eq_true rfl) dX1_sumAtOnce_42 ⟨Nat.zero_le _, Nat.zero_le _⟩ rfl (fun H locs hI => ?_)
            refine kb_eq (tgt := 62) cx dX1_sumAtOnce_45 (by decide) (fun c_13 => ?_) (fun c_13 => ?_)
            · refine lv_iconst (v := 0) cx.1 cx.2.1 dX1_sumAtOnce_62 (by decide) ?_
              exact k_top (by first | (simp [mfCol, hz, hp, c_12, c_13, mSumAI, mDue]; done) | (simp [mfCol, hz, hp, c_12, mSumAI, mDue]; exact fun h => absurd c_13 h)) (hj63 _ _ hI)
            · refine lv_aload_n cx.1 cx.2.1 dX1_sumAtOnce_48 rfl (lv_at hl 2 rfl) ?_
              refine lv_aload_n cx.1 cx.2.1 dX1_sumAtOnce_49 rfl (lv_at hl 2 rfl) ?_
              refine mg_0 cx hI dX1_sumAtOnce_50 ?_
              refine lv_iload_n cx.1 cx.2.1 dX1_sumAtOnce_53 rfl (lv_at hl 0 rfl) ?_
              refine ma_O cx hI (vp_in_nI hi (by decide)) dX1_sumAtOnce_54 ?_
              refine lv_iload_n cx.1 cx.2.1 dX1_sumAtOnce_55 rfl (lv_at hl 3 rfl) ?_
              refine mc_i 2 cx (hl.1.trans hml.symm) (kX1_altered l D ca ad v (mO v (nI i).toNatClampNeg) col) hI wk_528 wk_525 wk_527 wq_28 ⟨rfl, by decide +kernel⟩ rfl ⟨rfl, rfl⟩ ⟨Nat.le_of_ble_eq_true rfl, Nat.le_of_ble_eq_true rfl⟩ (Nat.le_of_ble_eq_true rfl) dX1_sumAtOnce_56 ⟨Nat.zero_le _, Nat.zero_le _⟩ rfl (fun H locs hI => ?_)
              refine lv_goto (tgt := 63) cx.1 cx.2.1 dX1_sumAtOnce_59 (by decide) ?_
              exact k_top (by first | (simp [mfCol, hz, hp, c_12, c_13, mSumAI, mDue]; done) | (simp [mfCol, hz, hp, c_12, mSumAI, mDue]; exact fun h => absurd c_13 h)) (hj63 _ _ hI)
  · rcases Decidable.em (mp v = 0) with hp | hp
    · refine lv_iconst (v := 0) cx.1 cx.2.1 dX1_sumAtOnce_2 (by decide) ?_
      refine lv_istore_n (lv' := [(3, .int 0), (2, .int 0), (0, .ref (ad 0)), (1, .int col)]) cx.1 cx.2.1 dX1_sumAtOnce_3 rfl hl (by decide) rfl (fun ls hl => ?_)
      refine lv_iload_n cx.1 cx.2.1 dX1_sumAtOnce_4 rfl (lv_at hl 0 rfl) ?_
      refine lv_bipush (v := 40) cx.1 cx.2.1 dX1_sumAtOnce_5 (by decide) ?_
      refine lv_icmp_ge (tgt := 71) cx.1 cx.2.1 dX1_sumAtOnce_7 (by decide) (fun h9 => absurd h9 (by decide)) (fun _ => ?_)
      refine lv_iload_n cx.1 cx.2.1 dX1_sumAtOnce_10 rfl (lv_at hl 3 rfl) ?_
      refine ks_i 1 cx (hl.1.trans hml.symm) (kX1_isColumn l D ca col) hI wk_610 wk_608 wk_609 wk_3 ⟨by decide, by decide, by decide +kernel⟩ rfl ⟨rfl, rfl⟩ ⟨Nat.le_of_ble_eq_true rfl, Nat.le_of_ble_eq_true rfl⟩ (Nat.le_of_ble_eq_true rfl) dX1_sumAtOnce_11 ⟨Nat.zero_le _, Nat.zero_le _⟩ rfl (fun H locs hI => ?_)
      refine kb_eq (tgt := 71) cx dX1_sumAtOnce_14 (by decide) (fun _ => ?_) (fun h9 => absurd h9 (by rw [hz]; decide))
      refine lv_aload_n cx.1 cx.2.1 dX1_sumAtOnce_71 rfl (lv_at hl 2 rfl) ?_
      refine k_join (D := D) (A := A) 84 (mw ad ca v) [.int (mfCol col), .ref (ad 0)] (fun H locs hI => ?_) (fun hj84 => ?_)
      · refine mc_i 1 cx (hl.1.trans hml.symm) (kX1_can l D ca ad v (mfCol col)) hI wk_512 wk_509 wk_511 wq_24 ⟨rfl, by decide +kernel⟩ rfl ⟨rfl, rfl⟩ ⟨Nat.le_of_ble_eq_true rfl, Nat.le_of_ble_eq_true rfl⟩ (Nat.le_of_ble_eq_true rfl) dX1_sumAtOnce_84 ⟨Nat.zero_le _, Nat.zero_le _⟩ rfl (fun H locs hI => ?_)
        refine kb_eq (tgt := 94) cx dX1_sumAtOnce_87 (by decide) (fun _ => ?_) (fun h9 => absurd h9 (by simp [mfCol, hz]))
        refine lv_iconst (v := 0) cx.1 cx.2.1 dX1_sumAtOnce_94 (by decide) ?_
        exact ke_i cx hr hlk hI (Nat.zero_le _) (Nat.zero_le _) dX1_sumAtOnce_95 (congrArg (fun z => some (Value.int z)) (by simp [mfCol, hz, hp])) rfl
      ·
        refine lv_iload_n cx.1 cx.2.1 dX1_sumAtOnce_72 rfl (lv_at hl 3 rfl) ?_
        refine ks_i 1 cx (hl.1.trans hml.symm) (kX1_isColumn l D ca col) hI wk_610 wk_608 wk_609 wk_3 ⟨by decide, by decide, by decide +kernel⟩ rfl ⟨rfl, rfl⟩ ⟨Nat.le_of_ble_eq_true rfl, Nat.le_of_ble_eq_true rfl⟩ (Nat.le_of_ble_eq_true rfl) dX1_sumAtOnce_73 ⟨Nat.zero_le _, Nat.zero_le _⟩ rfl (fun H locs hI => ?_)
        refine kb_eq (tgt := 83) cx dX1_sumAtOnce_76 (by decide) (fun _ => ?_) (fun h9 => absurd h9 (by rw [hz]; decide))
        refine lv_iconst (v := 1) cx.1 cx.2.1 dX1_sumAtOnce_83 (by decide) ?_
        exact k_top (by first | (simp [mfCol, hz, hp, mfCol]; done) | (simp [mfCol, hz, mfCol]; exact fun h => absurd hp h)) (hj84 _ _ hI)
    · refine lv_iconst (v := 0) cx.1 cx.2.1 dX1_sumAtOnce_2 (by decide) ?_
      refine lv_istore_n (lv' := [(3, .int 0), (2, .int 0), (0, .ref (ad 0)), (1, .int col)]) cx.1 cx.2.1 dX1_sumAtOnce_3 rfl hl (by decide) rfl (fun ls hl => ?_)
      refine lv_iload_n cx.1 cx.2.1 dX1_sumAtOnce_4 rfl (lv_at hl 0 rfl) ?_
      refine lv_bipush (v := 40) cx.1 cx.2.1 dX1_sumAtOnce_5 (by decide) ?_
      refine lv_icmp_ge (tgt := 71) cx.1 cx.2.1 dX1_sumAtOnce_7 (by decide) (fun h9 => absurd h9 (by decide)) (fun _ => ?_)
      refine lv_iload_n cx.1 cx.2.1 dX1_sumAtOnce_10 rfl (lv_at hl 3 rfl) ?_
      refine ks_i 1 cx (hl.1.trans hml.symm) (kX1_isColumn l D ca col) hI wk_610 wk_608 wk_609 wk_3 ⟨by decide, by decide, by decide +kernel⟩ rfl ⟨rfl, rfl⟩ ⟨Nat.le_of_ble_eq_true rfl, Nat.le_of_ble_eq_true rfl⟩ (Nat.le_of_ble_eq_true rfl) dX1_sumAtOnce_11 ⟨Nat.zero_le _, Nat.zero_le _⟩ rfl (fun H locs hI => ?_)
      refine kb_eq (tgt := 71) cx dX1_sumAtOnce_14 (by decide) (fun _ => ?_) (fun h9 => absurd h9 (by rw [hz]; decide))
      refine lv_aload_n cx.1 cx.2.1 dX1_sumAtOnce_71 rfl (lv_at hl 2 rfl) ?_
      refine k_join (D := D) (A := A) 84 (mw ad ca v) [.int (mfCol col), .ref (ad 0)] (fun H locs hI => ?_) (fun hj84 => ?_)
      · refine mc_i 1 cx (hl.1.trans hml.symm) (kX1_can l D ca ad v (mfCol col)) hI wk_512 wk_509 wk_511 wq_24 ⟨rfl, by decide +kernel⟩ rfl ⟨rfl, rfl⟩ ⟨Nat.le_of_ble_eq_true rfl, Nat.le_of_ble_eq_true rfl⟩ (Nat.le_of_ble_eq_true rfl) dX1_sumAtOnce_84 ⟨Nat.zero_le _, Nat.zero_le _⟩ rfl (fun H locs hI => ?_)
        refine kb_eq (tgt := 94) cx dX1_sumAtOnce_87 (by decide) (fun _ => ?_) (fun h9 => absurd h9 (by simp [mfCol, hz]))
        refine lv_iconst (v := 0) cx.1 cx.2.1 dX1_sumAtOnce_94 (by decide) ?_
        exact ke_i cx hr hlk hI (Nat.zero_le _) (Nat.zero_le _) dX1_sumAtOnce_95 (congrArg (fun z => some (Value.int z)) (by simp [mfCol, hz, hp])) rfl
      ·
        refine lv_iload_n cx.1 cx.2.1 dX1_sumAtOnce_72 rfl (lv_at hl 3 rfl) ?_
        refine ks_i 1 cx (hl.1.trans hml.symm) (kX1_isColumn l D ca col) hI wk_610 wk_608 wk_609 wk_3 ⟨by decide, by decide, by decide +kernel⟩ rfl ⟨rfl, rfl⟩ ⟨Nat.le_of_ble_eq_true rfl, Nat.le_of_ble_eq_true rfl⟩ (Nat.le_of_ble_eq_true rfl) dX1_sumAtOnce_73 ⟨Nat.zero_le _, Nat.zero_le _⟩ rfl (fun H locs hI => ?_)
        refine kb_eq (tgt := 83) cx dX1_sumAtOnce_76 (by decide) (fun _ => ?_) (fun h9 => absurd h9 (by rw [hz]; decide))
        refine lv_iconst (v := 1) cx.1 cx.2.1 dX1_sumAtOnce_83 (by decide) ?_
        exact k_top (by first | (simp [mfCol, hz, hp, mfCol]; done) | (simp [mfCol, hz, mfCol]; exact fun h => absurd hp h)) (hj84 _ _ hI)

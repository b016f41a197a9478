set_option maxHeartbeats 4000000 in
set_option maxRecDepth 100000 in
theorem kX0_endChange (l : Launch) (D : va_G) (ca : Nat → ClassId) (ad : Nat → Nat) (v : XS) : CM l yX0_endChange cX0_endChange 5 none (KR 1 23) D ca (xw ad ca v) [.ref (ad 0)] none (xw ad ca (xEnd v)) := by
  refine CM.of (by decide) (Nat.le_of_ble_eq_true rfl) ?_
  intro p e s m below meth c A ls cx hml hr hlk hI hl
  have hl : lv_has ls 5 [(0, .ref (ad 0))] := hl
  refine lv_aload_n cx.1 cx.2.1 dX0_endChange_0 rfl (lv_at hl 0 rfl) ?_
  refine xg_2 cx hI dX0_endChange_1 ?_
  refine lv_astore_n (lv' := [(1, .ref (ad 3)), (0, .ref (ad 0))]) cx.1 cx.2.1 dX0_endChange_4 rfl hl (by decide) rfl (fun ls hl => ?_)
  refine lv_aload_n cx.1 cx.2.1 dX0_endChange_5 rfl (lv_at hl 0 rfl) ?_
  refine xl_cols cx hI dX0_endChange_6 ?_
  refine lv_istore_n (lv' := [(2, .int 3), (1, .ref (ad 3)), (0, .ref (ad 0))]) cx.1 cx.2.1 dX0_endChange_7 rfl hl (by decide) rfl (fun ls hl => ?_)
  refine lv_iconst (v := 0) cx.1 cx.2.1 dX0_endChange_8 (by decide) ?_
  refine lv_istore_n (lv' := [(3, .int 0), (2, .int 3), (1, .ref (ad 3)), (0, .ref (ad 0))]) cx.1 cx.2.1 dX0_endChange_9 rfl hl (by decide) rfl (fun ls hl => ?_)
  refine k_loop 3 (fun i => (xw ad ca (xClr v i))) (fun i => [(3, .int (nI i)), (2, .int 3), (1, .ref (ad 3)), (0, .ref (ad 0))]) hI (lv_sub hl [0, 1, 2, 3] rfl) (fun H locs ls hI hl => ?_) (fun i hi H locs ls hI hl ih => ?_)
  · have hI : KI D A (xw ad ca (xClr v 3)) s.heap H locs := hI
    have hl : lv_has ls 5 [(3, .int (nI 3)), (2, .int 3), (1, .ref (ad 3)), (0, .ref (ad 0))] := hl
    refine lv_iload_n cx.1 cx.2.1 dX0_endChange_10 rfl (lv_at hl 0 rfl) ?_
    refine lv_iload_n cx.1 cx.2.1 dX0_endChange_11 rfl (lv_at hl 1 rfl) ?_
    refine lv_icmp_ge (tgt := 32) cx.1 cx.2.1 dX0_endChange_12 (by decide) (fun _ => ?_) (fun h9 => absurd (by decide : (3 : Int32) ≤ nI 3) h9)
    refine lv_iconst (v := 0) cx.1 cx.2.1 dX0_endChange_32 (by decide) ?_
    refine lv_istore_n (lv' := [(1, .int 0), (3, .int (nI 3)), (2, .int 3), (0, .ref (ad 0))]) cx.1 cx.2.1 dX0_endChange_33 rfl hl (by decide) rfl (fun ls hl => ?_)
    refine k_loop 40 (fun i => (xw ad ca (xUnr (xClr v 3) i))) (fun i => [(1, .int (nI i)), (0, .ref (ad 0))]) hI (lv_sub hl [0, 3] rfl) (fun H locs ls hI hl => ?_) (fun i hi H locs ls hI hl ih => ?_)
    · have hI : KI D A (xw ad ca (xUnr (xClr v 3) 40)) s.heap H locs := hI
      have hl : lv_has ls 5 [(1, .int (nI 40)), (0, .ref (ad 0))] := hl
      refine lv_iload_n cx.1 cx.2.1 dX0_endChange_34 rfl (lv_at hl 0 rfl) ?_
      refine lv_bipush (v := 40) cx.1 cx.2.1 dX0_endChange_35 (by decide) ?_
      refine lv_icmp_ge (tgt := 53) cx.1 cx.2.1 dX0_endChange_37 (by decide) (fun _ => ?_) (fun h9 => absurd (by decide : (40 : Int32) ≤ nI 40) h9)
      refine lv_aload_n cx.1 cx.2.1 dX0_endChange_53 rfl (lv_at hl 1 rfl) ?_
      refine lv_iconst (v := 0) cx.1 cx.2.1 dX0_endChange_54 (by decide) ?_
      refine xp_5 cx hI dX0_endChange_55 (fun H locs hI => ?_)
      refine lv_aload_n cx.1 cx.2.1 dX0_endChange_58 rfl (lv_at hl 1 rfl) ?_
      refine lv_iconst (v := 0) cx.1 cx.2.1 dX0_endChange_59 (by decide) ?_
      refine xp_6 cx hI dX0_endChange_60 (fun H locs hI => ?_)
      exact ke_v cx hr hlk hI (Nat.zero_le _) (Nat.zero_le _) dX0_endChange_63 rfl (congrArg (xw ad ca) (by simp [xEnd]))
    · have hI : KI D A (xw ad ca (xUnr (xClr v 3) i)) s.heap H locs := hI
      have hl : lv_has ls 5 [(1, .int (nI i)), (0, .ref (ad 0))] := hl
      refine lv_iload_n cx.1 cx.2.1 dX0_endChange_34 rfl (lv_at hl 0 rfl) ?_
      refine lv_bipush (v := 40) cx.1 cx.2.1 dX0_endChange_35 (by decide) ?_
      refine lv_icmp_ge (tgt := 53) cx.1 cx.2.1 dX0_endChange_37 (by decide) (fun h9 => absurd h9 (nI_ge hi (by decide))) (fun _ => ?_)
      refine lv_aload_n cx.1 cx.2.1 dX0_endChange_40 rfl (lv_at hl 1 rfl) ?_
      refine xg_3 cx hI dX0_endChange_41 ?_
      refine lv_iload_n cx.1 cx.2.1 dX0_endChange_44 rfl (lv_at hl 0 rfl) ?_
      refine lv_iconst (v := 0) cx.1 cx.2.1 dX0_endChange_45 (by decide) ?_
      refine xs_R cx hI (vp_in_nI hi (by decide)) dX0_endChange_46 (fun H locs hI => ?_)
      refine lv_iinc (v := nI (i + 1)) (lv' := [(1, .int (nI (i + 1))), (0, .ref (ad 0))]) cx.1 cx.2.1 dX0_endChange_47 hl (k := 0) rfl (nI_1 i) (by decide) rfl (fun ls hl => ?_)
      refine lv_goto (tgt := 34) cx.1 cx.2.1 dX0_endChange_50 (by decide) ?_
      refine ih _ _ _ ?_ ?_
      · show KI D A (xw ad ca (xUnr (xClr v 3) (i + 1))) s.heap _ _
        rw [show xUnr (xClr v 3) (i + 1) = xUR (xUnr (xClr v 3) i) (upd (xR (xUnr (xClr v 3) i)) (nI i).toNatClampNeg (vp_nar .boolean 0)) from rfl]
        exact hI
      · show lv_has _ _ [(1, .int (nI (i + 1))), (0, .ref (ad 0))]
        exact lv_sub hl [0, 1] rfl
  · have hI : KI D A (xw ad ca (xClr v i)) s.heap H locs := hI
    have hl : lv_has ls 5 [(3, .int (nI i)), (2, .int 3), (1, .ref (ad 3)), (0, .ref (ad 0))] := hl
    refine lv_iload_n cx.1 cx.2.1 dX0_endChange_10 rfl (lv_at hl 0 rfl) ?_
    refine lv_iload_n cx.1 cx.2.1 dX0_endChange_11 rfl (lv_at hl 1 rfl) ?_
    refine lv_icmp_ge (tgt := 32) cx.1 cx.2.1 dX0_endChange_12 (by decide) (fun h9 => absurd h9 (nI_ge hi (by decide))) (fun _ => ?_)
    refine lv_aload_n cx.1 cx.2.1 dX0_endChange_15 rfl (lv_at hl 2 rfl) ?_
    refine lv_iload_n cx.1 cx.2.1 dX0_endChange_16 rfl (lv_at hl 0 rfl) ?_
    refine xa_cols cx hI (vp_in_nI hi (by decide)) dX0_endChange_17 ?_
    refine lv_astore (lv' := [(4, .ref (ad (4 + (nI i).toNatClampNeg))), (3, .int (nI i)), (2, .int 3), (1, .ref (ad 3)), (0, .ref (ad 0))]) cx.1 cx.2.1 dX0_endChange_18 hl (by decide) rfl (fun ls hl => ?_)
    refine lv_aload cx.1 cx.2.1 dX0_endChange_20 (lv_at hl 0 rfl) ?_
    refine lv_iconst (v := (-1)) cx.1 cx.2.1 dX0_endChange_22 (by decide) ?_
    refine k_fillcol cx (hl.1.trans hml.symm) hI (vp_in_nI hi (by decide)) wk_25 ⟨Nat.le_of_ble_eq_true rfl, Nat.le_of_ble_eq_true rfl⟩ (Nat.le_of_ble_eq_true rfl) dX0_endChange_23 ⟨Nat.zero_le _, Nat.zero_le _⟩ (fun H locs hI => ?_)
    refine lv_iinc (v := nI (i + 1)) (lv' := [(3, .int (nI (i + 1))), (4, .ref (ad (4 + (nI i).toNatClampNeg))), (2, .int 3), (1, .ref (ad 3)), (0, .ref (ad 0))]) cx.1 cx.2.1 dX0_endChange_26 hl (k := 1) rfl (nI_1 i) (by decide) rfl (fun ls hl => ?_)
    refine lv_goto (tgt := 10) cx.1 cx.2.1 dX0_endChange_29 (by decide) ?_
    refine ih _ _ _ ?_ ?_
    · show KI D A (xw ad ca (xClr v (i + 1))) s.heap _ _
      rw [show xClr v (i + 1) = xUC (xClr v i) (nI i).toNatClampNeg (kFill 40 (-1) (xC (xClr v i) (nI i).toNatClampNeg)) from rfl]
      exact hI
    · show lv_has _ _ [(3, .int (nI (i + 1))), (2, .int 3), (1, .ref (ad 3)), (0, .ref (ad 0))]
      exact lv_sub hl [0, 2, 3, 4] rfl
set_option maxHeartbeats 4000000 in
set_option maxRecDepth 100000 in
theorem kX0_removeRowsWithoutShadow (l : Launch) (D : va_G) (ca : Nat → ClassId) (ad : Nat → Nat) (v : XS) : CM l yX0_removeRowsWithoutShadow cX0_removeRowsWithoutShadow 3 (some .int) (KR 2 44) D ca (xw ad ca v) [.ref (ad 0)] (some (.int (xRemN v 40))) (xw ad ca (xRem v 40)) := by
  refine CM.of (by decide) (Nat.le_of_ble_eq_true rfl) ?_
  intro p e s m below meth c A ls cx hml hr hlk hI hl
  have hl : lv_has ls 3 [(0, .ref (ad 0))] := hl
  refine lv_iconst (v := 0) cx.1 cx.2.1 dX0_removeRowsWithoutShadow_0 (by decide) ?_
  refine lv_istore_n (lv' := [(1, .int 0), (0, .ref (ad 0))]) cx.1 cx.2.1 dX0_removeRowsWithoutShadow_1 rfl hl (by decide) rfl (fun ls hl => ?_)
  refine lv_iconst (v := 0) cx.1 cx.2.1 dX0_removeRowsWithoutShadow_2 (by decide) ?_
  refine lv_istore_n (lv' := [(2, .int 0), (1, .int 0), (0, .ref (ad 0))]) cx.1 cx.2.1 dX0_removeRowsWithoutShadow_3 rfl hl (by decide) rfl (fun ls hl => ?_)
  refine k_loop 40 (fun i => (xw ad ca (xRem v i))) (fun i => [(2, .int (nI i)), (1, .int (xRemN v i)), (0, .ref (ad 0))]) hI (lv_sub hl [0, 1, 2] rfl) (fun H locs ls hI hl => ?_) (fun i hi H locs ls hI hl ih => ?_)
  · have hI : KI D A (xw ad ca (xRem v 40)) s.heap H locs := hI
    have hl : lv_has ls 3 [(2, .int (nI 40)), (1, .int (xRemN v 40)), (0, .ref (ad 0))] := hl
    refine lv_iload_n cx.1 cx.2.1 dX0_removeRowsWithoutShadow_4 rfl (lv_at hl 0 rfl) ?_
    refine lv_bipush (v := 40) cx.1 cx.2.1 dX0_removeRowsWithoutShadow_5 (by decide) ?_
    refine lv_icmp_ge (tgt := 40) cx.1 cx.2.1 dX0_removeRowsWithoutShadow_7 (by decide) (fun _ => ?_) (fun h9 => absurd (by decide : (40 : Int32) ≤ nI 40) h9)
    refine lv_iload_n cx.1 cx.2.1 dX0_removeRowsWithoutShadow_40 rfl (lv_at hl 1 rfl) ?_
    exact ke_i cx hr hlk hI (Nat.zero_le _) (Nat.zero_le _) dX0_removeRowsWithoutShadow_41 rfl rfl
  · have hI : KI D A (xw ad ca (xRem v i)) s.heap H locs := hI
    have hl : lv_has ls 3 [(2, .int (nI i)), (1, .int (xRemN v i)), (0, .ref (ad 0))] := hl
    refine lv_iload_n cx.1 cx.2.1 dX0_removeRowsWithoutShadow_4 rfl (lv_at hl 0 rfl) ?_
    refine lv_bipush (v := 40) cx.1 cx.2.1 dX0_removeRowsWithoutShadow_5 (by decide) ?_
    refine lv_icmp_ge (tgt := 40) cx.1 cx.2.1 dX0_removeRowsWithoutShadow_7 (by decide) (fun h9 => absurd h9 (nI_ge hi (by decide))) (fun _ => ?_)
    refine lv_aload_n cx.1 cx.2.1 dX0_removeRowsWithoutShadow_10 rfl (lv_at hl 2 rfl) ?_
    refine lv_iload_n cx.1 cx.2.1 dX0_removeRowsWithoutShadow_11 rfl (lv_at hl 0 rfl) ?_
    refine xc_i 1 cx (hl.1.trans hml.symm) (kX0_isInOld l D ca ad (xRem v i) (nI i) (vp_in_nI hi (by decide))) hI wk_191 wk_188 wk_190 wq_4 ⟨rfl, by decide +kernel⟩ rfl ⟨rfl, rfl⟩ ⟨Nat.le_of_ble_eq_true rfl, Nat.le_of_ble_eq_true rfl⟩ (Nat.le_of_ble_eq_true rfl) dX0_removeRowsWithoutShadow_12 ⟨Nat.zero_le _, Nat.zero_le _⟩ rfl (fun H locs hI => ?_)
    refine kb_eq (tgt := 34) cx dX0_removeRowsWithoutShadow_15 (by decide) (fun c_3 => ?_) (fun c_3 => ?_)
    · refine lv_iinc (v := nI (i + 1)) (lv' := [(2, .int (nI (i + 1))), (1, .int (xRemN v i)), (0, .ref (ad 0))]) cx.1 cx.2.1 dX0_removeRowsWithoutShadow_34 hl (k := 0) rfl (nI_1 i) (by decide) rfl (fun ls hl => ?_)
      refine lv_goto (tgt := 4) cx.1 cx.2.1 dX0_removeRowsWithoutShadow_37 (by decide) ?_
      refine ih _ _ _ ?_ ?_
      · show KI D A (xw ad ca (xRem v (i + 1))) s.heap _ _
        rw [show xRem v (i + 1) = xRem v i from (by simp [c_3, xRem, xGo])]
        exact hI
      · show lv_has _ _ [(2, .int (nI (i + 1))), (1, .int (xRemN v (i + 1))), (0, .ref (ad 0))]
        rw [show xRemN v (i + 1) = xRemN v i from (by simp [c_3, xRemN, xGo, b2i])]
        exact lv_sub hl [0, 1, 2] rfl
    · refine lv_aload_n cx.1 cx.2.1 dX0_removeRowsWithoutShadow_18 rfl (lv_at hl 2 rfl) ?_
      refine lv_iload_n cx.1 cx.2.1 dX0_removeRowsWithoutShadow_19 rfl (lv_at hl 0 rfl) ?_
      refine xc_i 1 cx (hl.1.trans hml.symm) (kX0_isInShadow l D ca ad (xRem v i) (nI i) (vp_in_nI hi (by decide))) hI wk_175 wk_172 wk_174 wq_1 ⟨rfl, by decide +kernel⟩ rfl ⟨rfl, rfl⟩ ⟨Nat.le_of_ble_eq_true rfl, Nat.le_of_ble_eq_true rfl⟩ (Nat.le_of_ble_eq_true rfl) dX0_removeRowsWithoutShadow_20 ⟨Nat.zero_le _, Nat.zero_le _⟩ rfl (fun H locs hI => ?_)
      refine kb_ne (tgt := 34) cx dX0_removeRowsWithoutShadow_23 (by decide) (fun c_4 => ?_) (fun c_4 => ?_)
      · refine lv_iinc (v := nI (i + 1)) (lv' := [(2, .int (nI (i + 1))), (1, .int (xRemN v i)), (0, .ref (ad 0))]) cx.1 cx.2.1 dX0_removeRowsWithoutShadow_34 hl (k := 0) rfl (nI_1 i) (by decide) rfl (fun ls hl => ?_)
        refine lv_goto (tgt := 4) cx.1 cx.2.1 dX0_removeRowsWithoutShadow_37 (by decide) ?_
        refine ih _ _ _ ?_ ?_
        · show KI D A (xw ad ca (xRem v (i + 1))) s.heap _ _
          rw [show xRem v (i + 1) = xRem v i from (by simp [c_3, c_4, xRem, xGo])]
          exact hI
        · show lv_has _ _ [(2, .int (nI (i + 1))), (1, .int (xRemN v (i + 1))), (0, .ref (ad 0))]
          rw [show xRemN v (i + 1) = xRemN v i from (by simp [c_3, c_4, xRemN, xGo, b2i])]
          exact lv_sub hl [0, 1, 2] rfl
      · refine lv_aload_n cx.1 cx.2.1 dX0_removeRowsWithoutShadow_26 rfl (lv_at hl 2 rfl) ?_
        refine lv_iload_n cx.1 cx.2.1 dX0_removeRowsWithoutShadow_27 rfl (lv_at hl 0 rfl) ?_
        refine xc_v 1 cx (hl.1.trans hml.symm) (kX0_removeRow l D ca ad (xRem v i) (nI i) (vp_in_nI hi (by decide))) hI wk_311 wk_308 wk_310 wq_15 ⟨rfl, by decide +kernel⟩ rfl ⟨rfl, rfl⟩ ⟨Nat.le_of_ble_eq_true rfl, Nat.le_of_ble_eq_true rfl⟩ (Nat.le_of_ble_eq_true rfl) dX0_removeRowsWithoutShadow_28 ⟨Nat.zero_le _, Nat.zero_le _⟩ rfl (fun H locs hI => ?_)
        refine lv_iinc (v := xRemN v i + 1) (lv' := [(1, .int (xRemN v i + 1)), (2, .int (nI i)), (0, .ref (ad 0))]) cx.1 cx.2.1 dX0_removeRowsWithoutShadow_31 hl (k := 1) rfl rfl (by decide) rfl (fun ls hl => ?_)
        refine lv_iinc (v := nI (i + 1)) (lv' := [(2, .int (nI (i + 1))), (1, .int (xRemN v i + 1)), (0, .ref (ad 0))]) cx.1 cx.2.1 dX0_removeRowsWithoutShadow_34 hl (k := 1) rfl (nI_1 i) (by decide) rfl (fun ls hl => ?_)
        refine lv_goto (tgt := 4) cx.1 cx.2.1 dX0_removeRowsWithoutShadow_37 (by decide) ?_
        refine ih _ _ _ ?_ ?_
        · show KI D A (xw ad ca (xRem v (i + 1))) s.heap _ _
          rw [show xRem v (i + 1) = xPut (xRem v i) (nI i) (-1) (-1) from (by simp [c_3, c_4, xRem, xGo])]
          exact hI
        · show lv_has _ _ [(2, .int (nI (i + 1))), (1, .int (xRemN v (i + 1))), (0, .ref (ad 0))]
          rw [show xRemN v (i + 1) = xRemN v i + 1 from (by simp [c_3, c_4, xRemN, xGo, b2i])]
          exact lv_sub hl [0, 1, 2] rfl
set_option maxHeartbeats 4000000 in
set_option maxRecDepth 100000 in
theorem kX0_copyChunk (l : Launch) (D : va_G) (ca : Nat → ClassId) (ad : Nat → Nat) (v : XS) (mk n : Nat) (hm : xm v = nI mk) (he : xCopyE v = nI (mk + n)) (hle : mk + n ≤ 40) : CM l yX0_copyChunk cX0_copyChunk 4 (some .int) (KR 5 108) D ca (xw ad ca v) [.ref (ad 0)] (some (.int (xCopyE v - xm v))) (xw ad ca (xCopy v mk n)) := by
  refine CM.of (by decide) (Nat.le_of_ble_eq_true rfl) ?_
  intro p e s m below meth c A ls cx hml hr hlk hI hl
  have hl : lv_has ls 4 [(0, .ref (ad 0))] := hl
  refine lv_aload_n cx.1 cx.2.1 dX0_copyChunk_0 rfl (lv_at hl 0 rfl) ?_
  refine xg_7 cx hI dX0_copyChunk_1 ?_
  refine lv_aload_n cx.1 cx.2.1 dX0_copyChunk_4 rfl (lv_at hl 0 rfl) ?_
  refine xg_10 cx hI dX0_copyChunk_5 ?_
  refine lv_iadd cx.1 cx.2.1 dX0_copyChunk_8 ?_
  refine lv_bipush (v := 40) cx.1 cx.2.1 dX0_copyChunk_9 (by decide) ?_
  refine k_mmin cx (hml.trans hl.1.symm) (cx.2.2.2.1 _ wk_312) (Nat.le_of_ble_eq_true rfl) (Nat.le_of_ble_eq_true rfl) (Nat.zero_le _) (Nat.zero_le _) dX0_copyChunk_11 ?_
  refine k_top (y := kMin ((xm v) + (xk v)) 40) rfl ?_
  refine k_top (y := xCopyE v) rfl ?_
  refine lv_istore_n (lv' := [(1, .int (xCopyE v)), (0, .ref (ad 0))]) cx.1 cx.2.1 dX0_copyChunk_14 rfl hl (by decide) rfl (fun ls hl => ?_)
  refine lv_iload_n cx.1 cx.2.1 dX0_copyChunk_15 rfl (lv_at hl 0 rfl) ?_
  refine lv_aload_n cx.1 cx.2.1 dX0_copyChunk_16 rfl (lv_at hl 1 rfl) ?_
  refine xg_7 cx hI dX0_copyChunk_17 ?_
  refine lv_isub cx.1 cx.2.1 dX0_copyChunk_20 ?_
  refine lv_istore_n (lv' := [(2, .int ((xCopyE v) - (xm v))), (1, .int (xCopyE v)), (0, .ref (ad 0))]) cx.1 cx.2.1 dX0_copyChunk_21 rfl hl (by decide) rfl (fun ls hl => ?_)
  refine lv_aload_n cx.1 cx.2.1 dX0_copyChunk_22 rfl (lv_at hl 2 rfl) ?_
  refine xg_7 cx hI dX0_copyChunk_23 ?_
  refine lv_istore_n (lv' := [(3, .int (xm v)), (2, .int ((xCopyE v) - (xm v))), (1, .int (xCopyE v)), (0, .ref (ad 0))]) cx.1 cx.2.1 dX0_copyChunk_26 rfl hl (by decide) rfl (fun ls hl => ?_)
  refine k_loop n (fun i => (xw ad ca (xCopyL v mk i))) (fun i => [(3, .int (nI (mk + i))), (1, .int (nI (mk + n))), (2, .int (xCopyE v - xm v)), (0, .ref (ad 0))]) hI (by show lv_has _ _ [(3, .int (nI (mk + 0))), (1, .int (nI (mk + n))), (2, .int (xCopyE v - xm v)), (0, .ref (ad 0))]; rw [show nI (mk + 0) = xm v from hm.symm, ← he]; exact lv_sub hl [0, 2, 1, 3] rfl) (fun H locs ls hI hl => ?_) (fun i hi H locs ls hI hl ih => ?_)
  · have hI : KI D A (xw ad ca (xCopyL v mk n)) s.heap H locs := hI
    have hl : lv_has ls 4 [(3, .int (nI (mk + n))), (1, .int (nI (mk + n))), (2, .int (xCopyE v - xm v)), (0, .ref (ad 0))] := hl
    refine lv_iload_n cx.1 cx.2.1 dX0_copyChunk_27 rfl (lv_at hl 0 rfl) ?_
    refine lv_iload_n cx.1 cx.2.1 dX0_copyChunk_28 rfl (lv_at hl 1 rfl) ?_
    refine lv_icmp_ge (tgt := 43) cx.1 cx.2.1 dX0_copyChunk_29 (by decide) (fun _ => ?_) (fun h9 => absurd (Int32.le_refl _) h9)
    refine lv_aload_n cx.1 cx.2.1 dX0_copyChunk_43 rfl (lv_at hl 3 rfl) ?_
    refine lv_iload_n cx.1 cx.2.1 dX0_copyChunk_44 rfl (lv_at hl 1 rfl) ?_
    refine xp_7 cx hI dX0_copyChunk_45 (fun H locs hI => ?_)
    refine lv_iload_n cx.1 cx.2.1 dX0_copyChunk_48 rfl (lv_at hl 2 rfl) ?_
    exact ke_i cx hr hlk hI (Nat.zero_le _) (Nat.zero_le _) dX0_copyChunk_49 rfl (congrArg (xw ad ca) (by simp [xCopy, he]))
  · have hI : KI D A (xw ad ca (xCopyL v mk i)) s.heap H locs := hI
    have hl : lv_has ls 4 [(3, .int (nI (mk + i))), (1, .int (nI (mk + n))), (2, .int (xCopyE v - xm v)), (0, .ref (ad 0))] := hl
    refine lv_iload_n cx.1 cx.2.1 dX0_copyChunk_27 rfl (lv_at hl 0 rfl) ?_
    refine lv_iload_n cx.1 cx.2.1 dX0_copyChunk_28 rfl (lv_at hl 1 rfl) ?_
    refine lv_icmp_ge (tgt := 43) cx.1 cx.2.1 dX0_copyChunk_29 (by decide) (fun h9 => absurd h9 (nI_ge (show mk + i < mk + n by omega) (by omega))) (fun _ => ?_)
    refine lv_aload_n cx.1 cx.2.1 dX0_copyChunk_32 rfl (lv_at hl 3 rfl) ?_
    refine lv_iload_n cx.1 cx.2.1 dX0_copyChunk_33 rfl (lv_at hl 0 rfl) ?_
    refine xc_v 1 cx (hl.1.trans hml.symm) (kX0_bring l D ca ad (xCopyL v mk i) (nI (mk + i)) (vp_in_nI (show mk + i < 40 by omega) (by decide))) hI wk_280 wk_277 wk_279 wq_14 ⟨rfl, by decide +kernel⟩ rfl ⟨rfl, rfl⟩ ⟨Nat.le_of_ble_eq_true rfl, Nat.le_of_ble_eq_true rfl⟩ (Nat.le_of_ble_eq_true rfl) dX0_copyChunk_34 ⟨Nat.zero_le _, Nat.zero_le _⟩ rfl (fun H locs hI => ?_)
    refine lv_iinc (v := nI (mk + (i + 1))) (lv' := [(3, .int (nI (mk + (i + 1)))), (1, .int (nI (mk + n))), (2, .int (xCopyE v - xm v)), (0, .ref (ad 0))]) cx.1 cx.2.1 dX0_copyChunk_37 hl (k := 0) rfl (nI_1 (mk + i)) (by decide) rfl (fun ls hl => ?_)
    refine lv_goto (tgt := 27) cx.1 cx.2.1 dX0_copyChunk_40 (by decide) ?_
    refine ih _ _ _ ?_ ?_
    · show KI D A (xw ad ca (xCopyL v mk (i + 1))) s.heap _ _
      rw [show xCopyL v mk (i + 1) = xBring (xCopyL v mk i) (nI (mk + i)) from rfl]
      exact hI
    · show lv_has _ _ [(3, .int (nI (mk + (i + 1)))), (1, .int (nI (mk + n))), (2, .int (xCopyE v - xm v)), (0, .ref (ad 0))]
      exact lv_sub hl [0, 1, 2, 3] rfl
set_option maxHeartbeats 4000000 in
set_option maxRecDepth 100000 in
theorem kX0_playNotes (l : Launch) (D : va_G) (ca : Nat → ClassId) (ad : Nat → Nat) (v : XS) (count : Int32) (cn n : Nat) (hc : count = nI cn) (hn : xc v = nI n) (hcn : cn ≤ n) (hn2 : n ≤ 1024) (hN : ∀ j, j < cn → vp_in (xN v (nI j).toNatClampNeg) 40) : CM l yX0_playNotes cX0_playNotes 3 (some .int) (KR 5 108) D ca (xw ad ca v) [.ref (ad 0), .int count] (some (.int (nI cn))) (xw ad ca (xPlay v cn)) := by
  refine CM.of (by decide) (Nat.le_of_ble_eq_true rfl) ?_
  intro p e s m below meth c A ls cx hml hr hlk hI hl
  subst hc
  have hl : lv_has ls 3 [(0, .ref (ad 0)), (1, .int (nI cn))] := hl
  refine lv_iconst (v := 0) cx.1 cx.2.1 dX0_playNotes_0 (by decide) ?_
  refine lv_istore_n (lv' := [(2, .int 0), (0, .ref (ad 0)), (1, .int (nI cn))]) cx.1 cx.2.1 dX0_playNotes_1 rfl hl (by decide) rfl (fun ls hl => ?_)
  refine k_loop cn (fun i => (xw ad ca (xPlayL v i))) (fun i => [(2, .int (nI i)), (1, .int (nI cn)), (0, .ref (ad 0))]) hI (lv_sub hl [0, 2, 1] rfl) (fun H locs ls hI hl => ?_) (fun i hi H locs ls hI hl ih => ?_)
  · have hI : KI D A (xw ad ca (xPlayL v cn)) s.heap H locs := hI
    have hl : lv_has ls 3 [(2, .int (nI cn)), (1, .int (nI cn)), (0, .ref (ad 0))] := hl
    refine lv_iload_n cx.1 cx.2.1 dX0_playNotes_2 rfl (lv_at hl 0 rfl) ?_
    refine lv_iload_n cx.1 cx.2.1 dX0_playNotes_3 rfl (lv_at hl 1 rfl) ?_
    refine lv_icmp_ge (tgt := 23) cx.1 cx.2.1 dX0_playNotes_4 (by decide) (fun _ => ?_) (fun h9 => absurd (Int32.le_refl _) h9)
    refine lv_aload_n cx.1 cx.2.1 dX0_playNotes_23 rfl (lv_at hl 2 rfl) ?_
    refine lv_dup cx.1 cx.2.1 dX0_playNotes_24 rfl ?_
    refine xg_5 cx hI dX0_playNotes_25 ?_
    refine lv_iload_n cx.1 cx.2.1 dX0_playNotes_28 rfl (lv_at hl 1 rfl) ?_
    refine lv_isub cx.1 cx.2.1 dX0_playNotes_29 ?_
    refine xp_5 cx hI dX0_playNotes_30 (fun H locs hI => ?_)
    have hI : KI D A (xw ad ca (xPlayC v cn)) s.heap _ _ := hI
    have hq : xc (xPlayC v cn) = nI (n - cn) := by show xc (xPlayL v cn) - nI cn = _; rw [xPlayL_c, hn, pk_sub hcn]
    refine lv_aload_n cx.1 cx.2.1 dX0_playNotes_33 rfl (lv_at hl 2 rfl) ?_
    refine xg_4 cx hI dX0_playNotes_34 ?_
    refine lv_iload_n cx.1 cx.2.1 dX0_playNotes_37 rfl (lv_at hl 1 rfl) ?_
    refine lv_aload_n cx.1 cx.2.1 dX0_playNotes_38 rfl (lv_at hl 2 rfl) ?_
    refine xg_4 cx hI dX0_playNotes_39 ?_
    refine lv_iconst (v := 0) cx.1 cx.2.1 dX0_playNotes_42 (by decide) ?_
    refine lv_aload_n cx.1 cx.2.1 dX0_playNotes_43 rfl (lv_at hl 2 rfl) ?_
    refine xg_5 cx hI dX0_playNotes_44 ?_
    refine k_copyN cx (hl.1.trans hml.symm) hI wk_340 (nI_pos (by omega)) (by decide) (by rw [hq]; exact nI_pos (by omega)) (by rw [hq, nI_clamp (by omega), nI_clamp (by omega)]; omega) (by rw [hq, nI_clamp (by omega)]; show 0 + _ ≤ _; omega) (Nat.le_of_ble_eq_true rfl) (Nat.le_of_ble_eq_true rfl) dX0_playNotes_47 (fun H locs hI => ?_)
    refine lv_iload_n cx.1 cx.2.1 dX0_playNotes_50 rfl (lv_at hl 1 rfl) ?_
    exact ke_i cx hr hlk hI (Nat.zero_le _) (Nat.zero_le _) dX0_playNotes_51 rfl (congrArg (xw ad ca) (by simp [xPlay]))
  · have hI : KI D A (xw ad ca (xPlayL v i)) s.heap H locs := hI
    have hl : lv_has ls 3 [(2, .int (nI i)), (1, .int (nI cn)), (0, .ref (ad 0))] := hl
    refine lv_iload_n cx.1 cx.2.1 dX0_playNotes_2 rfl (lv_at hl 0 rfl) ?_
    refine lv_iload_n cx.1 cx.2.1 dX0_playNotes_3 rfl (lv_at hl 1 rfl) ?_
    refine lv_icmp_ge (tgt := 23) cx.1 cx.2.1 dX0_playNotes_4 (by decide) (fun h9 => absurd h9 (nI_ge hi (by omega))) (fun _ => ?_)
    refine lv_aload_n cx.1 cx.2.1 dX0_playNotes_7 rfl (lv_at hl 2 rfl) ?_
    refine lv_aload_n cx.1 cx.2.1 dX0_playNotes_8 rfl (lv_at hl 2 rfl) ?_
    refine xg_4 cx hI dX0_playNotes_9 ?_
    refine lv_iload_n cx.1 cx.2.1 dX0_playNotes_12 rfl (lv_at hl 0 rfl) ?_
    refine xa_N cx hI (vp_in_nI (show i < 1024 by omega) (by decide)) dX0_playNotes_13 ?_
    refine xc_v 1 cx (hl.1.trans hml.symm) (kX0_bring l D ca ad (xPlayL v i) (xN (xPlayL v i) (nI i).toNatClampNeg) (by rw [xPlayL_N]; exact hN i hi)) hI wk_280 wk_277 wk_279 wq_14 ⟨rfl, by decide +kernel⟩ rfl ⟨rfl, rfl⟩ ⟨Nat.le_of_ble_eq_true rfl, Nat.le_of_ble_eq_true rfl⟩ (Nat.le_of_ble_eq_true rfl) dX0_playNotes_14 ⟨Nat.zero_le _, Nat.zero_le _⟩ rfl (fun H locs hI => ?_)
    refine lv_iinc (v := nI (i + 1)) (lv' := [(2, .int (nI (i + 1))), (1, .int (nI cn)), (0, .ref (ad 0))]) cx.1 cx.2.1 dX0_playNotes_17 hl (k := 0) rfl (nI_1 i) (by decide) rfl (fun ls hl => ?_)
    refine lv_goto (tgt := 2) cx.1 cx.2.1 dX0_playNotes_20 (by decide) ?_
    refine ih _ _ _ ?_ ?_
    · show KI D A (xw ad ca (xPlayL v (i + 1))) s.heap _ _
      rw [show xPlayL v (i + 1) = xBring (xPlayL v i) (xN (xPlayL v i) (nI i).toNatClampNeg) from rfl]
      exact hI
    · show lv_has _ _ [(2, .int (nI (i + 1))), (1, .int (nI cn)), (0, .ref (ad 0))]
      exact lv_sub hl [0, 1, 2] rfl

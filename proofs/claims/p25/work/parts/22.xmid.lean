set_option maxHeartbeats 4000000 in
set_option maxRecDepth 100000 in
theorem kX0_bring (l : Launch) (D : va_G) (ca : Nat → ClassId) (ad : Nat → Nat) (v : XS) (key : Int32) (hk : vp_in key 40) : CM l yX0_bring cX0_bring 3 none (KR 4 86) D ca (xw ad ca v) [.ref (ad 0), .int key] none (xw ad ca (xBring v key)) := by
  refine CM.of (by decide) (Nat.le_of_ble_eq_true rfl) ?_
  intro p e s m below meth c A ls cx hml hr hlk hI hl
  have hl : lv_has ls 3 [(0, .ref (ad 0)), (1, .int key)] := hl
  refine lv_iconst (v := 0) cx.1 cx.2.1 dX0_bring_0 (by decide) ?_
  refine lv_istore_n (lv' := [(2, .int 0), (0, .ref (ad 0)), (1, .int key)]) cx.1 cx.2.1 dX0_bring_1 rfl hl (by decide) rfl (fun ls hl => ?_)
  refine lv_iload_n cx.1 cx.2.1 dX0_bring_2 rfl (lv_at hl 0 rfl) ?_
  refine lv_iconst (v := 3) cx.1 cx.2.1 dX0_bring_3 (by decide) ?_
  refine lv_icmp_ge (tgt := 27) cx.1 cx.2.1 dX0_bring_4 (by decide) (fun h9 => absurd h9 (by decide)) (fun _ => ?_)
  refine lv_aload_n cx.1 cx.2.1 dX0_bring_7 rfl (lv_at hl 1 rfl) ?_
  refine xg_2 cx hI dX0_bring_8 ?_
  refine lv_iload_n cx.1 cx.2.1 dX0_bring_11 rfl (lv_at hl 0 rfl) ?_
  refine xa_cols cx hI (vp0 (by decide) (by decide)) dX0_bring_12 ?_
  refine lv_iload_n cx.1 cx.2.1 dX0_bring_13 rfl (lv_at hl 2 rfl) ?_
  refine lv_aload_n cx.1 cx.2.1 dX0_bring_14 rfl (lv_at hl 1 rfl) ?_
  refine lv_iload_n cx.1 cx.2.1 dX0_bring_15 rfl (lv_at hl 2 rfl) ?_
  refine lv_iload_n cx.1 cx.2.1 dX0_bring_16 rfl (lv_at hl 0 rfl) ?_
  refine xc_i 2 cx (hl.1.trans hml.symm) (kX0_broughtColumn l D ca ad v key 0 hk) hI wk_187 wk_184 wk_186 wq_3 ⟨rfl, by decide +kernel⟩ rfl ⟨rfl, rfl⟩ ⟨Nat.le_of_ble_eq_true rfl, Nat.le_of_ble_eq_true rfl⟩ (Nat.le_of_ble_eq_true rfl) dX0_bring_17 ⟨Nat.zero_le _, Nat.zero_le _⟩ rfl (fun H locs hI => ?_)
  refine xs_col (j := 0) cx hI (vp0 (by decide) (by decide)) rfl hk dX0_bring_20 (fun H locs hI => ?_)
  refine lv_iinc (v := 1) (lv' := [(2, .int 1), (0, .ref (ad 0)), (1, .int key)]) cx.1 cx.2.1 dX0_bring_21 hl (k := 0) rfl (by decide) (by decide) rfl (fun ls hl => ?_)
  refine lv_goto (tgt := 2) cx.1 cx.2.1 dX0_bring_24 (by decide) ?_
  refine lv_iload_n cx.1 cx.2.1 dX0_bring_2 rfl (lv_at hl 0 rfl) ?_
  refine lv_iconst (v := 3) cx.1 cx.2.1 dX0_bring_3 (by decide) ?_
  refine lv_icmp_ge (tgt := 27) cx.1 cx.2.1 dX0_bring_4 (by decide) (fun h9 => absurd h9 (by decide)) (fun _ => ?_)
  refine lv_aload_n cx.1 cx.2.1 dX0_bring_7 rfl (lv_at hl 1 rfl) ?_
  refine xg_2 cx hI dX0_bring_8 ?_
  refine lv_iload_n cx.1 cx.2.1 dX0_bring_11 rfl (lv_at hl 0 rfl) ?_
  refine xa_cols cx hI (vp1 (by decide) (by decide)) dX0_bring_12 ?_
  refine lv_iload_n cx.1 cx.2.1 dX0_bring_13 rfl (lv_at hl 2 rfl) ?_
  refine lv_aload_n cx.1 cx.2.1 dX0_bring_14 rfl (lv_at hl 1 rfl) ?_
  refine lv_iload_n cx.1 cx.2.1 dX0_bring_15 rfl (lv_at hl 2 rfl) ?_
  refine lv_iload_n cx.1 cx.2.1 dX0_bring_16 rfl (lv_at hl 0 rfl) ?_
  refine xc_i 2 cx (hl.1.trans hml.symm) (kX0_broughtColumn l D ca ad (xUC v 0 (upd (xC v 0) key.toNatClampNeg (xBro v key 0))) key 1 hk) hI wk_187 wk_184 wk_186 wq_3 ⟨rfl, by decide +kernel⟩ rfl ⟨rfl, rfl⟩ ⟨Nat.le_of_ble_eq_true rfl, Nat.le_of_ble_eq_true rfl⟩ (Nat.le_of_ble_eq_true rfl) dX0_bring_17 ⟨Nat.zero_le _, Nat.zero_le _⟩ rfl (fun H locs hI => ?_)
  refine xs_col (j := 1) cx hI (vp1 (by decide) (by decide)) rfl hk dX0_bring_20 (fun H locs hI => ?_)
  refine lv_iinc (v := 2) (lv' := [(2, .int 2), (0, .ref (ad 0)), (1, .int key)]) cx.1 cx.2.1 dX0_bring_21 hl (k := 0) rfl (by decide) (by decide) rfl (fun ls hl => ?_)
  refine lv_goto (tgt := 2) cx.1 cx.2.1 dX0_bring_24 (by decide) ?_
  refine lv_iload_n cx.1 cx.2.1 dX0_bring_2 rfl (lv_at hl 0 rfl) ?_
  refine lv_iconst (v := 3) cx.1 cx.2.1 dX0_bring_3 (by decide) ?_
  refine lv_icmp_ge (tgt := 27) cx.1 cx.2.1 dX0_bring_4 (by decide) (fun h9 => absurd h9 (by decide)) (fun _ => ?_)
  refine lv_aload_n cx.1 cx.2.1 dX0_bring_7 rfl (lv_at hl 1 rfl) ?_
  refine xg_2 cx hI dX0_bring_8 ?_
  refine lv_iload_n cx.1 cx.2.1 dX0_bring_11 rfl (lv_at hl 0 rfl) ?_
  refine xa_cols cx hI (vp2 (by decide) (by decide)) dX0_bring_12 ?_
  refine lv_iload_n cx.1 cx.2.1 dX0_bring_13 rfl (lv_at hl 2 rfl) ?_
  refine lv_aload_n cx.1 cx.2.1 dX0_bring_14 rfl (lv_at hl 1 rfl) ?_
  refine lv_iload_n cx.1 cx.2.1 dX0_bring_15 rfl (lv_at hl 2 rfl) ?_
  refine lv_iload_n cx.1 cx.2.1 dX0_bring_16 rfl (lv_at hl 0 rfl) ?_
  refine xc_i 2 cx (hl.1.trans hml.symm) (kX0_broughtColumn l D ca ad (xUC (xUC v 0 (upd (xC v 0) key.toNatClampNeg (xBro v key 0))) 1 (upd (xC (xUC v 0 (upd (xC v 0) key.toNatClampNeg (xBro v key 0))) 1) key.toNatClampNeg (xBro (xUC v 0 (upd (xC v 0) key.toNatClampNeg (xBro v key 0))) key 1))) key 2 hk) hI wk_187 wk_184 wk_186 wq_3 ⟨rfl, by decide +kernel⟩ rfl ⟨rfl, rfl⟩ ⟨Nat.le_of_ble_eq_true rfl, Nat.le_of_ble_eq_true rfl⟩ (Nat.le_of_ble_eq_true rfl) dX0_bring_17 ⟨Nat.zero_le _, Nat.zero_le _⟩ rfl (fun H locs hI => ?_)
  refine xs_col (j := 2) cx hI (vp2 (by decide) (by decide)) rfl hk dX0_bring_20 (fun H locs hI => ?_)
  refine lv_iinc (v := 3) (lv' := [(2, .int 3), (0, .ref (ad 0)), (1, .int key)]) cx.1 cx.2.1 dX0_bring_21 hl (k := 0) rfl (by decide) (by decide) rfl (fun ls hl => ?_)
  refine lv_goto (tgt := 2) cx.1 cx.2.1 dX0_bring_24 (by decide) ?_
  refine lv_iload_n cx.1 cx.2.1 dX0_bring_2 rfl (lv_at hl 0 rfl) ?_
  refine lv_iconst (v := 3) cx.1 cx.2.1 dX0_bring_3 (by decide) ?_
  refine lv_icmp_ge (tgt := 27) cx.1 cx.2.1 dX0_bring_4 (by decide) (fun _ => ?_) (fun h9 => absurd (by decide : (3 : Int32) ≤ 3) h9)
  have hI : KI D A (xw ad ca (xBr3 v key)) s.heap _ _ := hI
  refine lv_aload_n cx.1 cx.2.1 dX0_bring_27 rfl (lv_at hl 1 rfl) ?_
  refine xg_3 cx hI dX0_bring_28 ?_
  refine lv_iload_n cx.1 cx.2.1 dX0_bring_31 rfl (lv_at hl 2 rfl) ?_
  refine lv_aload_n cx.1 cx.2.1 dX0_bring_32 rfl (lv_at hl 1 rfl) ?_
  refine lv_iload_n cx.1 cx.2.1 dX0_bring_33 rfl (lv_at hl 2 rfl) ?_
  refine xc_i 1 cx (hl.1.trans hml.symm) (kX0_isInOld l D ca ad (xBr3 v key) key hk) hI wk_191 wk_188 wk_190 wq_4 ⟨rfl, by decide +kernel⟩ rfl ⟨rfl, rfl⟩ ⟨Nat.le_of_ble_eq_true rfl, Nat.le_of_ble_eq_true rfl⟩ (Nat.le_of_ble_eq_true rfl) dX0_bring_34 ⟨Nat.zero_le _, Nat.zero_le _⟩ rfl (fun H locs hI => ?_)
  refine kb_eq (tgt := 57) cx dX0_bring_37 (by decide) (fun c_5 => ?_) (fun c_5 => ?_)
  · refine lv_iconst (v := 0) cx.1 cx.2.1 dX0_bring_57 (by decide) ?_
    refine xs_R cx hI hk dX0_bring_58 (fun H locs hI => ?_)
    exact ke_v cx hr hlk hI (Nat.zero_le _) (Nat.zero_le _) dX0_bring_59 rfl (congrArg (xw ad ca) (by simp [xBring, b2i, c_5]))
  · refine lv_aload_n cx.1 cx.2.1 dX0_bring_40 rfl (lv_at hl 1 rfl) ?_
    refine lv_aload_n cx.1 cx.2.1 dX0_bring_41 rfl (lv_at hl 1 rfl) ?_
    refine xg_1 cx hI dX0_bring_42 ?_
    refine lv_iload_n cx.1 cx.2.1 dX0_bring_45 rfl (lv_at hl 2 rfl) ?_
    refine xa_B cx hI hk dX0_bring_46 ?_
    refine xc_i 1 cx (hl.1.trans hml.symm) (kX0_fits l D ca ad (xBr3 v key) (xB (xBr3 v key) key.toNatClampNeg)) hI wk_195 wk_192 wk_194 wq_5 ⟨rfl, by decide +kernel⟩ rfl ⟨rfl, rfl⟩ ⟨Nat.le_of_ble_eq_true rfl, Nat.le_of_ble_eq_true rfl⟩ (Nat.le_of_ble_eq_true rfl) dX0_bring_47 ⟨Nat.zero_le _, Nat.zero_le _⟩ rfl (fun H locs hI => ?_)
    refine kb_ne (tgt := 57) cx dX0_bring_50 (by decide) (fun c_6 => ?_) (fun c_6 => ?_)
    · refine lv_iconst (v := 0) cx.1 cx.2.1 dX0_bring_57 (by decide) ?_
      refine xs_R cx hI hk dX0_bring_58 (fun H locs hI => ?_)
      exact ke_v cx hr hlk hI (Nat.zero_le _) (Nat.zero_le _) dX0_bring_59 rfl (congrArg (xw ad ca) (by simp [xBring, b2i, c_5, c_6]))
    · refine lv_iconst (v := 1) cx.1 cx.2.1 dX0_bring_53 (by decide) ?_
      refine lv_goto (tgt := 58) cx.1 cx.2.1 dX0_bring_54 (by decide) ?_
      refine xs_R cx hI hk dX0_bring_58 (fun H locs hI => ?_)
      exact ke_v cx hr hlk hI (Nat.zero_le _) (Nat.zero_le _) dX0_bring_59 rfl (congrArg (xw ad ca) (by simp [xBring, b2i, c_5, c_6]))
set_option maxHeartbeats 4000000 in
set_option maxRecDepth 100000 in
theorem kX0_isBehind (l : Launch) (D : va_G) (ca : Nat → ClassId) (ad : Nat → Nat) (v : XS) (key : Int32) (hk : vp_in key 40) : CM l yX0_isBehind cX0_isBehind 3 (some .boolean) (KR 4 86) D ca (xw ad ca v) [.ref (ad 0), .int key] (some (.int (b2i (xBeh v key)))) (xw ad ca v) := by
  refine CM.of (by decide) (Nat.le_of_ble_eq_true rfl) ?_
  intro p e s m below meth c A ls cx hml hr hlk hI hl
  have hl : lv_has ls 3 [(0, .ref (ad 0)), (1, .int key)] := hl
  refine lv_iconst (v := 0) cx.1 cx.2.1 dX0_isBehind_0 (by decide) ?_
  refine lv_istore_n (lv' := [(2, .int 0), (0, .ref (ad 0)), (1, .int key)]) cx.1 cx.2.1 dX0_isBehind_1 rfl hl (by decide) rfl (fun ls hl => ?_)
  refine lv_iload_n cx.1 cx.2.1 dX0_isBehind_2 rfl (lv_at hl 0 rfl) ?_
  refine lv_iconst (v := 3) cx.1 cx.2.1 dX0_isBehind_3 (by decide) ?_
  refine lv_icmp_ge (tgt := 32) cx.1 cx.2.1 dX0_isBehind_4 (by decide) (fun h9 => absurd h9 (by decide)) (fun _ => ?_)
  refine lv_aload_n cx.1 cx.2.1 dX0_isBehind_7 rfl (lv_at hl 1 rfl) ?_
  refine xg_2 cx hI dX0_isBehind_8 ?_
  refine lv_iload_n cx.1 cx.2.1 dX0_isBehind_11 rfl (lv_at hl 0 rfl) ?_
  refine xa_cols cx hI (vp0 (by decide) (by decide)) dX0_isBehind_12 ?_
  refine lv_iload_n cx.1 cx.2.1 dX0_isBehind_13 rfl (lv_at hl 2 rfl) ?_
  refine xa_col (j := 0) cx hI (vp0 (by decide) (by decide)) rfl hk dX0_isBehind_14 ?_
  refine lv_aload_n cx.1 cx.2.1 dX0_isBehind_15 rfl (lv_at hl 1 rfl) ?_
  refine lv_iload_n cx.1 cx.2.1 dX0_isBehind_16 rfl (lv_at hl 2 rfl) ?_
  refine lv_iload_n cx.1 cx.2.1 dX0_isBehind_17 rfl (lv_at hl 0 rfl) ?_
  refine xc_i 2 cx (hl.1.trans hml.symm) (kX0_broughtColumn l D ca ad v key 0 hk) hI wk_187 wk_184 wk_186 wq_3 ⟨rfl, by decide +kernel⟩ rfl ⟨rfl, rfl⟩ ⟨Nat.le_of_ble_eq_true rfl, Nat.le_of_ble_eq_true rfl⟩ (Nat.le_of_ble_eq_true rfl) dX0_isBehind_18 ⟨Nat.zero_le _, Nat.zero_le _⟩ rfl (fun H locs hI => ?_)
  refine lv_icmp_eq (tgt := 26) cx.1 cx.2.1 dX0_isBehind_21 (by decide) (fun c_2 => ?_) (fun c_2 => ?_)
  · refine lv_iinc (v := 1) (lv' := [(2, .int 1), (0, .ref (ad 0)), (1, .int key)]) cx.1 cx.2.1 dX0_isBehind_26 hl (k := 0) rfl (by decide) (by decide) rfl (fun ls hl => ?_)
    refine lv_goto (tgt := 2) cx.1 cx.2.1 dX0_isBehind_29 (by decide) ?_
    refine lv_iload_n cx.1 cx.2.1 dX0_isBehind_2 rfl (lv_at hl 0 rfl) ?_
    refine lv_iconst (v := 3) cx.1 cx.2.1 dX0_isBehind_3 (by decide) ?_
    refine lv_icmp_ge (tgt := 32) cx.1 cx.2.1 dX0_isBehind_4 (by decide) (fun h9 => absurd h9 (by decide)) (fun _ => ?_)
    refine lv_aload_n cx.1 cx.2.1 dX0_isBehind_7 rfl (lv_at hl 1 rfl) ?_
    refine xg_2 cx hI dX0_isBehind_8 ?_
    refine lv_iload_n cx.1 cx.2.1 dX0_isBehind_11 rfl (lv_at hl 0 rfl) ?_
    refine xa_cols cx hI (vp1 (by decide) (by decide)) dX0_isBehind_12 ?_
    refine lv_iload_n cx.1 cx.2.1 dX0_isBehind_13 rfl (lv_at hl 2 rfl) ?_
    refine xa_col (j := 1) cx hI (vp1 (by decide) (by decide)) rfl hk dX0_isBehind_14 ?_
    refine lv_aload_n cx.1 cx.2.1 dX0_isBehind_15 rfl (lv_at hl 1 rfl) ?_
    refine lv_iload_n cx.1 cx.2.1 dX0_isBehind_16 rfl (lv_at hl 2 rfl) ?_
    refine lv_iload_n cx.1 cx.2.1 dX0_isBehind_17 rfl (lv_at hl 0 rfl) ?_
    refine xc_i 2 cx (hl.1.trans hml.symm) (kX0_broughtColumn l D ca ad v key 1 hk) hI wk_187 wk_184 wk_186 wq_3 ⟨rfl, by decide +kernel⟩ rfl ⟨rfl, rfl⟩ ⟨Nat.le_of_ble_eq_true rfl, Nat.le_of_ble_eq_true rfl⟩ (Nat.le_of_ble_eq_true rfl) dX0_isBehind_18 ⟨Nat.zero_le _, Nat.zero_le _⟩ rfl (fun H locs hI => ?_)
    refine lv_icmp_eq (tgt := 26) cx.1 cx.2.1 dX0_isBehind_21 (by decide) (fun c_4 => ?_) (fun c_4 => ?_)
    · refine lv_iinc (v := 2) (lv' := [(2, .int 2), (0, .ref (ad 0)), (1, .int key)]) cx.1 cx.2.1 dX0_isBehind_26 hl (k := 0) rfl (by decide) (by decide) rfl (fun ls hl => ?_)
      refine lv_goto (tgt := 2) cx.1 cx.2.1 dX0_isBehind_29 (by decide) ?_
      refine lv_iload_n cx.1 cx.2.1 dX0_isBehind_2 rfl (lv_at hl 0 rfl) ?_
      refine lv_iconst (v := 3) cx.1 cx.2.1 dX0_isBehind_3 (by decide) ?_
      refine lv_icmp_ge (tgt := 32) cx.1 cx.2.1 dX0_isBehind_4 (by decide) (fun h9 => absurd h9 (by decide)) (fun _ => ?_)
      refine lv_aload_n cx.1 cx.2.1 dX0_isBehind_7 rfl (lv_at hl 1 rfl) ?_
      refine xg_2 cx hI dX0_isBehind_8 ?_
      refine lv_iload_n cx.1 cx.2.1 dX0_isBehind_11 rfl (lv_at hl 0 rfl) ?_
      refine xa_cols cx hI (vp2 (by decide) (by decide)) dX0_isBehind_12 ?_
      refine lv_iload_n cx.1 cx.2.1 dX0_isBehind_13 rfl (lv_at hl 2 rfl) ?_
      refine xa_col (j := 2) cx hI (vp2 (by decide) (by decide)) rfl hk dX0_isBehind_14 ?_
      refine lv_aload_n cx.1 cx.2.1 dX0_isBehind_15 rfl (lv_at hl 1 rfl) ?_
      refine lv_iload_n cx.1 cx.2.1 dX0_isBehind_16 rfl (lv_at hl 2 rfl) ?_
      refine lv_iload_n cx.1 cx.2.1 dX0_isBehind_17 rfl (lv_at hl 0 rfl) ?_
      refine xc_i 2 cx (hl.1.trans hml.symm) (kX0_broughtColumn l D ca ad v key 2 hk) hI wk_187 wk_184 wk_186 wq_3 ⟨rfl, by decide +kernel⟩ rfl ⟨rfl, rfl⟩ ⟨Nat.le_of_ble_eq_true rfl, Nat.le_of_ble_eq_true rfl⟩ (Nat.le_of_ble_eq_true rfl) dX0_isBehind_18 ⟨Nat.zero_le _, Nat.zero_le _⟩ rfl (fun H locs hI => ?_)
      refine lv_icmp_eq (tgt := 26) cx.1 cx.2.1 dX0_isBehind_21 (by decide) (fun c_6 => ?_) (fun c_6 => ?_)
      · refine lv_iinc (v := 3) (lv' := [(2, .int 3), (0, .ref (ad 0)), (1, .int key)]) cx.1 cx.2.1 dX0_isBehind_26 hl (k := 0) rfl (by decide) (by decide) rfl (fun ls hl => ?_)
        refine lv_goto (tgt := 2) cx.1 cx.2.1 dX0_isBehind_29 (by decide) ?_
        refine lv_iload_n cx.1 cx.2.1 dX0_isBehind_2 rfl (lv_at hl 0 rfl) ?_
        refine lv_iconst (v := 3) cx.1 cx.2.1 dX0_isBehind_3 (by decide) ?_
        refine lv_icmp_ge (tgt := 32) cx.1 cx.2.1 dX0_isBehind_4 (by decide) (fun _ => ?_) (fun h9 => absurd (by decide : (3 : Int32) ≤ 3) h9)
        refine lv_iconst (v := 0) cx.1 cx.2.1 dX0_isBehind_32 (by decide) ?_
        exact ke_z cx hr hlk hI (Nat.zero_le _) (Nat.zero_le _) dX0_isBehind_33 rfl (congrArg (fun z => some (Value.int z)) (by simp [xBeh, b2i, c_2, c_4, c_6])) rfl
      · refine lv_iconst (v := 1) cx.1 cx.2.1 dX0_isBehind_24 (by decide) ?_
        exact ke_z cx hr hlk hI (Nat.zero_le _) (Nat.zero_le _) dX0_isBehind_25 rfl (congrArg (fun z => some (Value.int z)) (by simp [xBeh, b2i, c_2, c_4, c_6])) rfl
    · refine lv_iconst (v := 1) cx.1 cx.2.1 dX0_isBehind_24 (by decide) ?_
      exact ke_z cx hr hlk hI (Nat.zero_le _) (Nat.zero_le _) dX0_isBehind_25 rfl (congrArg (fun z => some (Value.int z)) (by simp [xBeh, b2i, c_2, c_4])) rfl
  · refine lv_iconst (v := 1) cx.1 cx.2.1 dX0_isBehind_24 (by decide) ?_
    exact ke_z cx hr hlk hI (Nat.zero_le _) (Nat.zero_le _) dX0_isBehind_25 rfl (congrArg (fun z => some (Value.int z)) (by simp [xBeh, b2i, c_2])) rfl
set_option maxHeartbeats 4000000 in
set_option maxRecDepth 100000 in
theorem kX0_followWrite (l : Launch) (D : va_G) (ca : Nat → ClassId) (ad : Nat → Nat) (v : XS) (key : Int32) (hk : vp_in key 40) (h0 : ¬ xc v < 0) : CM l yX0_followWrite cX0_followWrite 2 none (KR 5 108) D ca (xw ad ca v) [.ref (ad 0), .int key] none (xw ad ca (xFollow v key)) := by
  refine CM.of (by decide) (Nat.le_of_ble_eq_true rfl) ?_
  intro p e s m below meth c A ls cx hml hr hlk hI hl
  have hl : lv_has ls 2 [(0, .ref (ad 0)), (1, .int key)] := hl
  refine lv_aload_n cx.1 cx.2.1 dX0_followWrite_0 rfl (lv_at hl 0 rfl) ?_
  refine xg_6 cx hI dX0_followWrite_1 ?_
  refine lv_iconst (v := 1) cx.1 cx.2.1 dX0_followWrite_4 (by decide) ?_
  refine lv_icmp_ne (tgt := 16) cx.1 cx.2.1 dX0_followWrite_5 (by decide) (fun c_1 => ?_) (fun c_1 => ?_)
  · refine lv_aload_n cx.1 cx.2.1 dX0_followWrite_16 rfl (lv_at hl 0 rfl) ?_
    refine xg_6 cx hI dX0_followWrite_17 ?_
    refine lv_iconst (v := 2) cx.1 cx.2.1 dX0_followWrite_20 (by decide) ?_
    refine lv_icmp_ne (tgt := 29) cx.1 cx.2.1 dX0_followWrite_21 (by decide) (fun c_2 => ?_) (fun c_2 => ?_)
    · exact ke_v cx hr hlk hI (Nat.zero_le _) (Nat.zero_le _) dX0_followWrite_29 rfl (congrArg (xw ad ca) (by simp [xFollow, c_1, c_2]))
    · refine lv_aload_n cx.1 cx.2.1 dX0_followWrite_24 rfl (lv_at hl 0 rfl) ?_
      refine lv_iload_n cx.1 cx.2.1 dX0_followWrite_25 rfl (lv_at hl 1 rfl) ?_
      refine xc_v 1 cx (hl.1.trans hml.symm) (kX0_bring l D ca ad v key hk) hI wk_280 wk_277 wk_279 wq_14 ⟨rfl, by decide +kernel⟩ rfl ⟨rfl, rfl⟩ ⟨Nat.le_of_ble_eq_true rfl, Nat.le_of_ble_eq_true rfl⟩ (Nat.le_of_ble_eq_true rfl) dX0_followWrite_26 ⟨Nat.zero_le _, Nat.zero_le _⟩ rfl (fun H locs hI => ?_)
      exact ke_v cx hr hlk hI (Nat.zero_le _) (Nat.zero_le _) dX0_followWrite_29 rfl (congrArg (xw ad ca) (by simp [xFollow, c_1, c_2]))
  · refine lv_aload_n cx.1 cx.2.1 dX0_followWrite_8 rfl (lv_at hl 0 rfl) ?_
    refine lv_iload_n cx.1 cx.2.1 dX0_followWrite_9 rfl (lv_at hl 1 rfl) ?_
    refine xc_v 1 cx (hl.1.trans hml.symm) (kX0_noteKey l D ca ad v key h0) hI wk_276 wk_273 wk_275 wq_13 ⟨rfl, by decide +kernel⟩ rfl ⟨rfl, rfl⟩ ⟨Nat.le_of_ble_eq_true rfl, Nat.le_of_ble_eq_true rfl⟩ (Nat.le_of_ble_eq_true rfl) dX0_followWrite_10 ⟨Nat.zero_le _, Nat.zero_le _⟩ rfl (fun H locs hI => ?_)
    refine lv_goto (tgt := 29) cx.1 cx.2.1 dX0_followWrite_13 (by decide) ?_
    exact ke_v cx hr hlk hI (Nat.zero_le _) (Nat.zero_le _) dX0_followWrite_29 rfl (congrArg (xw ad ca) (by simp [xFollow, c_1]))
set_option maxHeartbeats 4000000 in
set_option maxRecDepth 100000 in
theorem kX0_rows (l : Launch) (D : va_G) (ca : Nat → ClassId) (ad : Nat → Nat) (v : XS) : CM l yX0_rows cX0_rows 3 (some .int) (KR 2 42) D ca (xw ad ca v) [.ref (ad 0)] (some (.int (xRows v 40))) (xw ad ca v) := by
  refine CM.of (by decide) (Nat.le_of_ble_eq_true rfl) ?_
  intro p e s m below meth c A ls cx hml hr hlk hI hl
  have hl : lv_has ls 3 [(0, .ref (ad 0))] := hl
  refine lv_iconst (v := 0) cx.1 cx.2.1 dX0_rows_0 (by decide) ?_
  refine lv_istore_n (lv' := [(1, .int 0), (0, .ref (ad 0))]) cx.1 cx.2.1 dX0_rows_1 rfl hl (by decide) rfl (fun ls hl => ?_)
  refine lv_iconst (v := 0) cx.1 cx.2.1 dX0_rows_2 (by decide) ?_
  refine lv_istore_n (lv' := [(2, .int 0), (1, .int 0), (0, .ref (ad 0))]) cx.1 cx.2.1 dX0_rows_3 rfl hl (by decide) rfl (fun ls hl => ?_)
  refine k_loop 40 (fun i => (xw ad ca v)) (fun i => [(2, .int (nI i)), (1, .int (xRows v i)), (0, .ref (ad 0))]) hI (lv_sub hl [0, 1, 2] rfl) (fun H locs ls hI hl => ?_) (fun i hi H locs ls hI hl ih => ?_)
  · have hI : KI D A (xw ad ca v) s.heap H locs := hI
    have hl : lv_has ls 3 [(2, .int (nI 40)), (1, .int (xRows v 40)), (0, .ref (ad 0))] := hl
    refine lv_iload_n cx.1 cx.2.1 dX0_rows_4 rfl (lv_at hl 0 rfl) ?_
    refine lv_bipush (v := 40) cx.1 cx.2.1 dX0_rows_5 (by decide) ?_
    refine lv_icmp_ge (tgt := 27) cx.1 cx.2.1 dX0_rows_7 (by decide) (fun _ => ?_) (fun h9 => absurd (by decide : (40 : Int32) ≤ nI 40) h9)
    refine lv_iload_n cx.1 cx.2.1 dX0_rows_27 rfl (lv_at hl 1 rfl) ?_
    exact ke_i cx hr hlk hI (Nat.zero_le _) (Nat.zero_le _) dX0_rows_28 rfl rfl
  · have hI : KI D A (xw ad ca v) s.heap H locs := hI
    have hl : lv_has ls 3 [(2, .int (nI i)), (1, .int (xRows v i)), (0, .ref (ad 0))] := hl
    refine lv_iload_n cx.1 cx.2.1 dX0_rows_4 rfl (lv_at hl 0 rfl) ?_
    refine lv_bipush (v := 40) cx.1 cx.2.1 dX0_rows_5 (by decide) ?_
    refine lv_icmp_ge (tgt := 27) cx.1 cx.2.1 dX0_rows_7 (by decide) (fun h9 => absurd h9 (nI_ge hi (by decide))) (fun _ => ?_)
    refine lv_aload_n cx.1 cx.2.1 dX0_rows_10 rfl (lv_at hl 2 rfl) ?_
    refine lv_iload_n cx.1 cx.2.1 dX0_rows_11 rfl (lv_at hl 0 rfl) ?_
    refine xc_i 1 cx (hl.1.trans hml.symm) (kX0_isSeen l D ca ad v (nI i) (vp_in_nI hi (by decide))) hI wk_248 wk_245 wk_247 wq_10 ⟨rfl, by decide +kernel⟩ rfl ⟨rfl, rfl⟩ ⟨Nat.le_of_ble_eq_true rfl, Nat.le_of_ble_eq_true rfl⟩ (Nat.le_of_ble_eq_true rfl) dX0_rows_12 ⟨Nat.zero_le _, Nat.zero_le _⟩ rfl (fun H locs hI => ?_)
    refine kb_eq (tgt := 21) cx dX0_rows_15 (by decide) (fun c_3 => ?_) (fun c_3 => ?_)
    · refine lv_iinc (v := nI (i + 1)) (lv' := [(2, .int (nI (i + 1))), (1, .int (xRows v i)), (0, .ref (ad 0))]) cx.1 cx.2.1 dX0_rows_21 hl (k := 0) rfl (nI_1 i) (by decide) rfl (fun ls hl => ?_)
      refine lv_goto (tgt := 4) cx.1 cx.2.1 dX0_rows_24 (by decide) ?_
      refine ih _ _ _ ?_ ?_
      · show KI D A (xw ad ca v) s.heap _ _
        exact hI
      · show lv_has _ _ [(2, .int (nI (i + 1))), (1, .int (xRows v (i + 1))), (0, .ref (ad 0))]
        rw [show xRows v (i + 1) = xRows v i from (by simp [c_3, xRows_t, xRows_f])]
        exact lv_sub hl [0, 1, 2] rfl
    · refine lv_iinc (v := xRows v i + 1) (lv' := [(1, .int (xRows v i + 1)), (2, .int (nI i)), (0, .ref (ad 0))]) cx.1 cx.2.1 dX0_rows_18 hl (k := 1) rfl rfl (by decide) rfl (fun ls hl => ?_)
      refine lv_iinc (v := nI (i + 1)) (lv' := [(2, .int (nI (i + 1))), (1, .int (xRows v i + 1)), (0, .ref (ad 0))]) cx.1 cx.2.1 dX0_rows_21 hl (k := 1) rfl (nI_1 i) (by decide) rfl (fun ls hl => ?_)
      refine lv_goto (tgt := 4) cx.1 cx.2.1 dX0_rows_24 (by decide) ?_
      refine ih _ _ _ ?_ ?_
      · show KI D A (xw ad ca v) s.heap _ _
        exact hI
      · show lv_has _ _ [(2, .int (nI (i + 1))), (1, .int (xRows v (i + 1))), (0, .ref (ad 0))]
        rw [show xRows v (i + 1) = xRows v i + 1 from (by simp [c_3, xRows_t, xRows_f])]
        exact lv_sub hl [0, 1, 2] rfl
set_option maxHeartbeats 4000000 in
set_option maxRecDepth 100000 in
theorem kX0_shadowRows (l : Launch) (D : va_G) (ca : Nat → ClassId) (ad : Nat → Nat) (v : XS) : CM l yX0_shadowRows cX0_shadowRows 3 (some .int) (KR 1 21) D ca (xw ad ca v) [.ref (ad 0)] (some (.int (xShRows v 40))) (xw ad ca v) := by
  refine CM.of (by decide) (Nat.le_of_ble_eq_true rfl) ?_
  intro p e s m below meth c A ls cx hml hr hlk hI hl
  have hl : lv_has ls 3 [(0, .ref (ad 0))] := hl
  refine lv_iconst (v := 0) cx.1 cx.2.1 dX0_shadowRows_0 (by decide) ?_
  refine lv_istore_n (lv' := [(1, .int 0), (0, .ref (ad 0))]) cx.1 cx.2.1 dX0_shadowRows_1 rfl hl (by decide) rfl (fun ls hl => ?_)
  refine lv_iconst (v := 0) cx.1 cx.2.1 dX0_shadowRows_2 (by decide) ?_
  refine lv_istore_n (lv' := [(2, .int 0), (1, .int 0), (0, .ref (ad 0))]) cx.1 cx.2.1 dX0_shadowRows_3 rfl hl (by decide) rfl (fun ls hl => ?_)
  refine k_loop 40 (fun i => (xw ad ca v)) (fun i => [(2, .int (nI i)), (1, .int (xShRows v i)), (0, .ref (ad 0))]) hI (lv_sub hl [0, 1, 2] rfl) (fun H locs ls hI hl => ?_) (fun i hi H locs ls hI hl ih => ?_)
  · have hI : KI D A (xw ad ca v) s.heap H locs := hI
    have hl : lv_has ls 3 [(2, .int (nI 40)), (1, .int (xShRows v 40)), (0, .ref (ad 0))] := hl
    refine lv_iload_n cx.1 cx.2.1 dX0_shadowRows_4 rfl (lv_at hl 0 rfl) ?_
    refine lv_bipush (v := 40) cx.1 cx.2.1 dX0_shadowRows_5 (by decide) ?_
    refine lv_icmp_ge (tgt := 27) cx.1 cx.2.1 dX0_shadowRows_7 (by decide) (fun _ => ?_) (fun h9 => absurd (by decide : (40 : Int32) ≤ nI 40) h9)
    refine lv_iload_n cx.1 cx.2.1 dX0_shadowRows_27 rfl (lv_at hl 1 rfl) ?_
    exact ke_i cx hr hlk hI (Nat.zero_le _) (Nat.zero_le _) dX0_shadowRows_28 rfl rfl
  · have hI : KI D A (xw ad ca v) s.heap H locs := hI
    have hl : lv_has ls 3 [(2, .int (nI i)), (1, .int (xShRows v i)), (0, .ref (ad 0))] := hl
    refine lv_iload_n cx.1 cx.2.1 dX0_shadowRows_4 rfl (lv_at hl 0 rfl) ?_
    refine lv_bipush (v := 40) cx.1 cx.2.1 dX0_shadowRows_5 (by decide) ?_
    refine lv_icmp_ge (tgt := 27) cx.1 cx.2.1 dX0_shadowRows_7 (by decide) (fun h9 => absurd h9 (nI_ge hi (by decide))) (fun _ => ?_)
    refine lv_aload_n cx.1 cx.2.1 dX0_shadowRows_10 rfl (lv_at hl 2 rfl) ?_
    refine lv_iload_n cx.1 cx.2.1 dX0_shadowRows_11 rfl (lv_at hl 0 rfl) ?_
    refine xc_i 1 cx (hl.1.trans hml.symm) (kX0_isInShadow l D ca ad v (nI i) (vp_in_nI hi (by decide))) hI wk_175 wk_172 wk_174 wq_1 ⟨rfl, by decide +kernel⟩ rfl ⟨rfl, rfl⟩ ⟨Nat.le_of_ble_eq_true rfl, Nat.le_of_ble_eq_true rfl⟩ (Nat.le_of_ble_eq_true rfl) dX0_shadowRows_12 ⟨Nat.zero_le _, Nat.zero_le _⟩ rfl (fun H locs hI => ?_)
    refine kb_eq (tgt := 21) cx dX0_shadowRows_15 (by decide) (fun c_3 => ?_) (fun c_3 => ?_)
    · refine lv_iinc (v := nI (i + 1)) (lv' := [(2, .int (nI (i + 1))), (1, .int (xShRows v i)), (0, .ref (ad 0))]) cx.1 cx.2.1 dX0_shadowRows_21 hl (k := 0) rfl (nI_1 i) (by decide) rfl (fun ls hl => ?_)
      refine lv_goto (tgt := 4) cx.1 cx.2.1 dX0_shadowRows_24 (by decide) ?_
      refine ih _ _ _ ?_ ?_
      · show KI D A (xw ad ca v) s.heap _ _
        exact hI
      · show lv_has _ _ [(2, .int (nI (i + 1))), (1, .int (xShRows v (i + 1))), (0, .ref (ad 0))]
        rw [show xShRows v (i + 1) = xShRows v i from (by simp [c_3, xShRows_t, xShRows_f])]
        exact lv_sub hl [0, 1, 2] rfl
    · refine lv_iinc (v := xShRows v i + 1) (lv' := [(1, .int (xShRows v i + 1)), (2, .int (nI i)), (0, .ref (ad 0))]) cx.1 cx.2.1 dX0_shadowRows_18 hl (k := 1) rfl rfl (by decide) rfl (fun ls hl => ?_)
      refine lv_iinc (v := nI (i + 1)) (lv' := [(2, .int (nI (i + 1))), (1, .int (xShRows v i + 1)), (0, .ref (ad 0))]) cx.1 cx.2.1 dX0_shadowRows_21 hl (k := 1) rfl (nI_1 i) (by decide) rfl (fun ls hl => ?_)
      refine lv_goto (tgt := 4) cx.1 cx.2.1 dX0_shadowRows_24 (by decide) ?_
      refine ih _ _ _ ?_ ?_
      · show KI D A (xw ad ca v) s.heap _ _
        exact hI
      · show lv_has _ _ [(2, .int (nI (i + 1))), (1, .int (xShRows v (i + 1))), (0, .ref (ad 0))]
        rw [show xShRows v (i + 1) = xShRows v i + 1 from (by simp [c_3, xShRows_t, xShRows_f])]
        exact lv_sub hl [0, 1, 2] rfl
set_option maxHeartbeats 4000000 in
set_option maxRecDepth 100000 in
theorem kX0_behind (l : Launch) (D : va_G) (ca : Nat → ClassId) (ad : Nat → Nat) (v : XS) : CM l yX0_behind cX0_behind 3 (some .int) (KR 5 108) D ca (xw ad ca v) [.ref (ad 0)] (some (.int (if xp v = 0 then 0 else xBehinds v 40))) (xw ad ca v) := by
  refine CM.of (by decide) (Nat.le_of_ble_eq_true rfl) ?_
  intro p e s m below meth c A ls cx hml hr hlk hI hl
  have hl : lv_has ls 3 [(0, .ref (ad 0))] := hl
  refine lv_aload_n cx.1 cx.2.1 dX0_behind_0 rfl (lv_at hl 0 rfl) ?_
  refine xg_6 cx hI dX0_behind_1 ?_
  refine lv_if_ne (tgt := 9) cx.1 cx.2.1 dX0_behind_4 (by decide) (fun c_1 => ?_) (fun c_1 => ?_)
  · refine lv_iconst (v := 0) cx.1 cx.2.1 dX0_behind_9 (by decide) ?_
    refine lv_istore_n (lv' := [(1, .int 0), (0, .ref (ad 0))]) cx.1 cx.2.1 dX0_behind_10 rfl hl (by decide) rfl (fun ls hl => ?_)
    refine lv_iconst (v := 0) cx.1 cx.2.1 dX0_behind_11 (by decide) ?_
    refine lv_istore_n (lv' := [(2, .int 0), (1, .int 0), (0, .ref (ad 0))]) cx.1 cx.2.1 dX0_behind_12 rfl hl (by decide) rfl (fun ls hl => ?_)
    refine k_loop 40 (fun i => (xw ad ca v)) (fun i => [(2, .int (nI i)), (1, .int (xBehinds v i)), (0, .ref (ad 0))]) hI (lv_sub hl [0, 1, 2] rfl) (fun H locs ls hI hl => ?_) (fun i hi H locs ls hI hl ih => ?_)
    · have hI : KI D A (xw ad ca v) s.heap H locs := hI
      have hl : lv_has ls 3 [(2, .int (nI 40)), (1, .int (xBehinds v 40)), (0, .ref (ad 0))] := hl
      refine lv_iload_n cx.1 cx.2.1 dX0_behind_13 rfl (lv_at hl 0 rfl) ?_
      refine lv_bipush (v := 40) cx.1 cx.2.1 dX0_behind_14 (by decide) ?_
      refine lv_icmp_ge (tgt := 36) cx.1 cx.2.1 dX0_behind_16 (by decide) (fun _ => ?_) (fun h9 => absurd (by decide : (40 : Int32) ≤ nI 40) h9)
      refine lv_iload_n cx.1 cx.2.1 dX0_behind_36 rfl (lv_at hl 1 rfl) ?_
      exact ke_i cx hr hlk hI (Nat.zero_le _) (Nat.zero_le _) dX0_behind_37 (congrArg (fun z => some (Value.int z)) (by simp [c_1])) rfl
    · have hI : KI D A (xw ad ca v) s.heap H locs := hI
      have hl : lv_has ls 3 [(2, .int (nI i)), (1, .int (xBehinds v i)), (0, .ref (ad 0))] := hl
      refine lv_iload_n cx.1 cx.2.1 dX0_behind_13 rfl (lv_at hl 0 rfl) ?_
      refine lv_bipush (v := 40) cx.1 cx.2.1 dX0_behind_14 (by decide) ?_
      refine lv_icmp_ge (tgt := 36) cx.1 cx.2.1 dX0_behind_16 (by decide) (fun h9 => absurd h9 (nI_ge hi (by decide))) (fun _ => ?_)
      refine lv_aload_n cx.1 cx.2.1 dX0_behind_19 rfl (lv_at hl 2 rfl) ?_
      refine lv_iload_n cx.1 cx.2.1 dX0_behind_20 rfl (lv_at hl 0 rfl) ?_
      refine xc_i 1 cx (hl.1.trans hml.symm) (kX0_isBehind l D ca ad v (nI i) (vp_in_nI hi (by decide))) hI wk_183 wk_180 wk_182 wq_2 ⟨rfl, by decide +kernel⟩ rfl ⟨rfl, rfl⟩ ⟨Nat.le_of_ble_eq_true rfl, Nat.le_of_ble_eq_true rfl⟩ (Nat.le_of_ble_eq_true rfl) dX0_behind_21 ⟨Nat.zero_le _, Nat.zero_le _⟩ rfl (fun H locs hI => ?_)
      refine kb_eq (tgt := 30) cx dX0_behind_24 (by decide) (fun c_4 => ?_) (fun c_4 => ?_)
      · refine lv_iinc (v := nI (i + 1)) (lv' := [(2, .int (nI (i + 1))), (1, .int (xBehinds v i)), (0, .ref (ad 0))]) cx.1 cx.2.1 dX0_behind_30 hl (k := 0) rfl (nI_1 i) (by decide) rfl (fun ls hl => ?_)
        refine lv_goto (tgt := 13) cx.1 cx.2.1 dX0_behind_33 (by decide) ?_
        refine ih _ _ _ ?_ ?_
        · show KI D A (xw ad ca v) s.heap _ _
          exact hI
        · show lv_has _ _ [(2, .int (nI (i + 1))), (1, .int (xBehinds v (i + 1))), (0, .ref (ad 0))]
          rw [show xBehinds v (i + 1) = xBehinds v i from (by simp [c_4, xBehinds_t, xBehinds_f])]
          exact lv_sub hl [0, 1, 2] rfl
      · refine lv_iinc (v := xBehinds v i + 1) (lv' := [(1, .int (xBehinds v i + 1)), (2, .int (nI i)), (0, .ref (ad 0))]) cx.1 cx.2.1 dX0_behind_27 hl (k := 1) rfl rfl (by decide) rfl (fun ls hl => ?_)
        refine lv_iinc (v := nI (i + 1)) (lv' := [(2, .int (nI (i + 1))), (1, .int (xBehinds v i + 1)), (0, .ref (ad 0))]) cx.1 cx.2.1 dX0_behind_30 hl (k := 1) rfl (nI_1 i) (by decide) rfl (fun ls hl => ?_)
        refine lv_goto (tgt := 13) cx.1 cx.2.1 dX0_behind_33 (by decide) ?_
        refine ih _ _ _ ?_ ?_
        · show KI D A (xw ad ca v) s.heap _ _
          exact hI
        · show lv_has _ _ [(2, .int (nI (i + 1))), (1, .int (xBehinds v (i + 1))), (0, .ref (ad 0))]
          rw [show xBehinds v (i + 1) = xBehinds v i + 1 from (by simp [c_4, xBehinds_t, xBehinds_f])]
          exact lv_sub hl [0, 1, 2] rfl
  · refine lv_iconst (v := 0) cx.1 cx.2.1 dX0_behind_7 (by decide) ?_
    exact ke_i cx hr hlk hI (Nat.zero_le _) (Nat.zero_le _) dX0_behind_8 (congrArg (fun z => some (Value.int z)) (by simp [c_1])) rfl
set_option maxHeartbeats 4000000 in
set_option maxRecDepth 100000 in
theorem kX0_phase (l : Launch) (D : va_G) (ca : Nat → ClassId) (ad : Nat → Nat) (v : XS) : CM l yX0_phase cX0_phase 1 (some .int) (KR 0 0) D ca (xw ad ca v) [.ref (ad 0)] (some (.int (xp v))) (xw ad ca v) := by
  refine CM.of (by decide) (Nat.le_of_ble_eq_true rfl) ?_
  intro p e s m below meth c A ls cx hml hr hlk hI hl
  have hl : lv_has ls 1 [(0, .ref (ad 0))] := hl
  refine lv_aload_n cx.1 cx.2.1 dX0_phase_0 rfl (lv_at hl 0 rfl) ?_
  refine xg_6 cx hI dX0_phase_1 ?_
  exact ke_i cx hr hlk hI (Nat.zero_le _) (Nat.zero_le _) dX0_phase_4 rfl rfl
set_option maxHeartbeats 4000000 in
set_option maxRecDepth 100000 in
theorem kX0_mark (l : Launch) (D : va_G) (ca : Nat → ClassId) (ad : Nat → Nat) (v : XS) : CM l yX0_mark cX0_mark 1 (some .int) (KR 0 0) D ca (xw ad ca v) [.ref (ad 0)] (some (.int (if xp v = 0 then -1 else xm v))) (xw ad ca v) := by
  refine CM.of (by decide) (Nat.le_of_ble_eq_true rfl) ?_
  intro p e s m below meth c A ls cx hml hr hlk hI hl
  have hl : lv_has ls 1 [(0, .ref (ad 0))] := hl
  refine lv_aload_n cx.1 cx.2.1 dX0_mark_0 rfl (lv_at hl 0 rfl) ?_
  refine xg_6 cx hI dX0_mark_1 ?_
  refine lv_if_ne (tgt := 11) cx.1 cx.2.1 dX0_mark_4 (by decide) (fun c_1 => ?_) (fun c_1 => ?_)
  · refine lv_aload_n cx.1 cx.2.1 dX0_mark_11 rfl (lv_at hl 0 rfl) ?_
    refine xg_7 cx hI dX0_mark_12 ?_
    exact ke_i cx hr hlk hI (Nat.zero_le _) (Nat.zero_le _) dX0_mark_15 (congrArg (fun z => some (Value.int z)) (by simp [c_1])) rfl
  · refine lv_iconst (v := (-1)) cx.1 cx.2.1 dX0_mark_7 (by decide) ?_
    refine lv_goto (tgt := 15) cx.1 cx.2.1 dX0_mark_8 (by decide) ?_
    exact ke_i cx hr hlk hI (Nat.zero_le _) (Nat.zero_le _) dX0_mark_15 (congrArg (fun z => some (Value.int z)) (by simp [c_1])) rfl
set_option maxHeartbeats 4000000 in
set_option maxRecDepth 100000 in
theorem kX0_notes (l : Launch) (D : va_G) (ca : Nat → ClassId) (ad : Nat → Nat) (v : XS) : CM l yX0_notes cX0_notes 1 (some .int) (KR 0 0) D ca (xw ad ca v) [.ref (ad 0)] (some (.int (xc v))) (xw ad ca v) := by
  refine CM.of (by decide) (Nat.le_of_ble_eq_true rfl) ?_
  intro p e s m below meth c A ls cx hml hr hlk hI hl
  have hl : lv_has ls 1 [(0, .ref (ad 0))] := hl
  refine lv_aload_n cx.1 cx.2.1 dX0_notes_0 rfl (lv_at hl 0 rfl) ?_
  refine xg_5 cx hI dX0_notes_1 ?_
  exact ke_i cx hr hlk hI (Nat.zero_le _) (Nat.zero_le _) dX0_notes_4 rfl rfl

set_option maxHeartbeats 4000000 in
set_option maxRecDepth 100000 in
theorem kX0_insert (l : Launch) (D : va_G) (ca : Nat → ClassId) (ad : Nat → Nat) (v : XS) (key a b : Int32) (h0 : ¬ xc v < 0) (hlS : l.stackTraces = false) : CX l yX0_insert cX0_insert 4 none (KR1 6 129) D ca (xw ad ca v) [.ref (ad 0), .int key, .int a, .int b] (xfInsert v key a b = 0) none (xw ad ca (xFollow (xPut v key a b) key)) (fun E => (xfInsert v key a b = 1 ∧ E = "java/lang/IndexOutOfBoundsException") ∨ (xfInsert v key a b = 2 ∧ E = "java/lang/IllegalArgumentException") ∨ (xfInsert v key a b = 3 ∧ E = "java/lang/IllegalStateException")) := by
  refine CX.of (by decide) (Nat.le_of_ble_eq_true rfl) ?_
  intro p e s m below meth c A ls cx hml hr hlk htab hE hI hl
  have hl : lv_has ls 4 [(0, .ref (ad 0)), (1, .int key), (2, .int a), (3, .int b)] := hl
  refine lv_iload_n cx.1 cx.2.1 dX0_insert_0 rfl (lv_at hl 1 rfl) ?_
  refine ks_i 1 cx (hl.1.trans hml.symm) (kX0_isKey l D ca key) hI wk_89 wk_87 wk_88 wk_1 ⟨by decide, by decide, by decide +kernel⟩ rfl ⟨rfl, rfl⟩ ⟨Nat.le_of_ble_eq_true rfl, Nat.le_of_ble_eq_true rfl⟩ (Nat.le_of_ble_eq_true rfl) dX0_insert_1 ⟨Nat.zero_le _, Nat.zero_le _⟩ rfl (fun H locs hI => ?_)
  refine kb_ne (tgt := 17) cx dX0_insert_4 (by decide) (fun c_1 => ?_) (fun c_1 => ?_)
  · have hk : vp_in key 40 := xKey_in c_1
    refine lv_aload_n cx.1 cx.2.1 dX0_insert_17 rfl (lv_at hl 0 rfl) ?_
    refine lv_iload_n cx.1 cx.2.1 dX0_insert_18 rfl (lv_at hl 2 rfl) ?_
    refine lv_iload_n cx.1 cx.2.1 dX0_insert_19 rfl (lv_at hl 3 rfl) ?_
    refine xc_i 2 cx (hl.1.trans hml.symm) (kX0_canBeWritten l D ca ad v a b) hI wk_228 wk_225 wk_227 wq_9 ⟨rfl, by decide +kernel⟩ rfl ⟨rfl, rfl⟩ ⟨Nat.le_of_ble_eq_true rfl, Nat.le_of_ble_eq_true rfl⟩ (Nat.le_of_ble_eq_true rfl) dX0_insert_20 ⟨Nat.zero_le _, Nat.zero_le _⟩ rfl (fun H locs hI => ?_)
    refine kb_ne (tgt := 36) cx dX0_insert_23 (by decide) (fun c_2 => ?_) (fun c_2 => ?_)
    · refine lv_aload_n cx.1 cx.2.1 dX0_insert_36 rfl (lv_at hl 0 rfl) ?_
      refine lv_iload_n cx.1 cx.2.1 dX0_insert_37 rfl (lv_at hl 1 rfl) ?_
      refine xc_i 1 cx (hl.1.trans hml.symm) (kX0_isSeen l D ca ad v key hk) hI wk_248 wk_245 wk_247 wq_10 ⟨rfl, by decide +kernel⟩ rfl ⟨rfl, rfl⟩ ⟨Nat.le_of_ble_eq_true rfl, Nat.le_of_ble_eq_true rfl⟩ (Nat.le_of_ble_eq_true rfl) dX0_insert_38 ⟨Nat.zero_le _, Nat.zero_le _⟩ rfl (fun H locs hI => ?_)
      refine kb_eq (tgt := 54) cx dX0_insert_41 (by decide) (fun c_3 => ?_) (fun c_3 => ?_)
      · refine lv_aload_n cx.1 cx.2.1 dX0_insert_54 rfl (lv_at hl 0 rfl) ?_
        refine lv_iload_n cx.1 cx.2.1 dX0_insert_55 rfl (lv_at hl 1 rfl) ?_
        refine lv_iload_n cx.1 cx.2.1 dX0_insert_56 rfl (lv_at hl 2 rfl) ?_
        refine lv_iload_n cx.1 cx.2.1 dX0_insert_57 rfl (lv_at hl 3 rfl) ?_
        refine xc_v 3 cx (hl.1.trans hml.symm) (kX0_putRow l D ca ad v key a b hk) hI wk_268 wk_265 wk_267 wq_11 ⟨rfl, by decide +kernel⟩ rfl ⟨rfl, rfl⟩ ⟨Nat.le_of_ble_eq_true rfl, Nat.le_of_ble_eq_true rfl⟩ (Nat.le_of_ble_eq_true rfl) dX0_insert_58 ⟨Nat.zero_le _, Nat.zero_le _⟩ rfl (fun H locs hI => ?_)
        refine lv_aload_n cx.1 cx.2.1 dX0_insert_61 rfl (lv_at hl 0 rfl) ?_
        refine lv_iload_n cx.1 cx.2.1 dX0_insert_62 rfl (lv_at hl 1 rfl) ?_
        refine xc_v 1 cx (hl.1.trans hml.symm) (kX0_followWrite l D ca ad (xPut v key a b) key hk h0) hI wk_272 wk_269 wk_271 wq_12 ⟨rfl, by decide +kernel⟩ rfl ⟨rfl, rfl⟩ ⟨Nat.le_of_ble_eq_true rfl, Nat.le_of_ble_eq_true rfl⟩ (Nat.le_of_ble_eq_true rfl) dX0_insert_63 ⟨Nat.zero_le _, Nat.zero_le _⟩ rfl (fun H locs hI => ?_)
        exact ke_x (by simp [xfInsert, c_1, c_2, c_3]) (ke_v cx hr hlk hI (Nat.zero_le _) (Nat.zero_le _) dX0_insert_66 rfl rfl)
      · exact kt_ise cx hlS hlk htab hE hI (hl.1.trans hml.symm) (show (69, "there is a row with this key") ∈ kstrs by decide) dX0_insert_44 dX0_insert_47 dX0_insert_48 dX0_insert_50 dX0_insert_53 ⟨Nat.le_of_ble_eq_true rfl, Nat.le_of_ble_eq_true rfl⟩ ⟨Nat.le_of_ble_eq_true rfl, Nat.le_of_ble_eq_true rfl⟩ (Or.inr (Or.inr (⟨(by simp [xfInsert, c_1, c_2, c_3]), rfl⟩)))
    · exact kt_iae cx hlS hlk htab hE hI (hl.1.trans hml.symm) (show (61, "a or b is out of range, or the row does not fit") ∈ kstrs by decide) dX0_insert_26 dX0_insert_29 dX0_insert_30 dX0_insert_32 dX0_insert_35 ⟨Nat.le_of_ble_eq_true rfl, Nat.le_of_ble_eq_true rfl⟩ ⟨Nat.le_of_ble_eq_true rfl, Nat.le_of_ble_eq_true rfl⟩ (Or.inr (Or.inl (⟨(by simp [xfInsert, c_1, c_2]), rfl⟩)))
  · exact kt_iob cx hlS hlk htab hE hI (hl.1.trans hml.symm) (show (50, "there is no such key") ∈ kstrs by decide) dX0_insert_7 dX0_insert_10 dX0_insert_11 dX0_insert_13 dX0_insert_16 ⟨Nat.le_of_ble_eq_true rfl, Nat.le_of_ble_eq_true rfl⟩ ⟨Nat.le_of_ble_eq_true rfl, Nat.le_of_ble_eq_true rfl⟩ (Or.inl (⟨(by simp [xfInsert, c_1]), rfl⟩))
set_option maxHeartbeats 4000000 in
set_option maxRecDepth 100000 in
theorem kX0_update (l : Launch) (D : va_G) (ca : Nat → ClassId) (ad : Nat → Nat) (v : XS) (key a b : Int32) (h0 : ¬ xc v < 0) (hlS : l.stackTraces = false) : CX l yX0_update cX0_update 4 none (KR1 6 129) D ca (xw ad ca v) [.ref (ad 0), .int key, .int a, .int b] (xfUpdate v key a b = 0) none (xw ad ca (xFollow (xPut v key a b) key)) (fun E => (xfUpdate v key a b = 1 ∧ E = "java/lang/IndexOutOfBoundsException") ∨ (xfUpdate v key a b = 2 ∧ E = "java/lang/IllegalArgumentException") ∨ (xfUpdate v key a b = 3 ∧ E = "java/util/NoSuchElementException")) := by
  refine CX.of (by decide) (Nat.le_of_ble_eq_true rfl) ?_
  intro p e s m below meth c A ls cx hml hr hlk htab hE hI hl
  have hl : lv_has ls 4 [(0, .ref (ad 0)), (1, .int key), (2, .int a), (3, .int b)] := hl
  refine lv_iload_n cx.1 cx.2.1 dX0_update_0 rfl (lv_at hl 1 rfl) ?_
  refine ks_i 1 cx (hl.1.trans hml.symm) (kX0_isKey l D ca key) hI wk_89 wk_87 wk_88 wk_1 ⟨by decide, by decide, by decide +kernel⟩ rfl ⟨rfl, rfl⟩ ⟨Nat.le_of_ble_eq_true rfl, Nat.le_of_ble_eq_true rfl⟩ (Nat.le_of_ble_eq_true rfl) dX0_update_1 ⟨Nat.zero_le _, Nat.zero_le _⟩ rfl (fun H locs hI => ?_)
  refine kb_ne (tgt := 17) cx dX0_update_4 (by decide) (fun c_1 => ?_) (fun c_1 => ?_)
  · have hk : vp_in key 40 := xKey_in c_1
    refine lv_aload_n cx.1 cx.2.1 dX0_update_17 rfl (lv_at hl 0 rfl) ?_
    refine lv_iload_n cx.1 cx.2.1 dX0_update_18 rfl (lv_at hl 2 rfl) ?_
    refine lv_iload_n cx.1 cx.2.1 dX0_update_19 rfl (lv_at hl 3 rfl) ?_
    refine xc_i 2 cx (hl.1.trans hml.symm) (kX0_canBeWritten l D ca ad v a b) hI wk_228 wk_225 wk_227 wq_9 ⟨rfl, by decide +kernel⟩ rfl ⟨rfl, rfl⟩ ⟨Nat.le_of_ble_eq_true rfl, Nat.le_of_ble_eq_true rfl⟩ (Nat.le_of_ble_eq_true rfl) dX0_update_20 ⟨Nat.zero_le _, Nat.zero_le _⟩ rfl (fun H locs hI => ?_)
    refine kb_ne (tgt := 36) cx dX0_update_23 (by decide) (fun c_2 => ?_) (fun c_2 => ?_)
    · refine lv_aload_n cx.1 cx.2.1 dX0_update_36 rfl (lv_at hl 0 rfl) ?_
      refine lv_iload_n cx.1 cx.2.1 dX0_update_37 rfl (lv_at hl 1 rfl) ?_
      refine xc_i 1 cx (hl.1.trans hml.symm) (kX0_isSeen l D ca ad v key hk) hI wk_248 wk_245 wk_247 wq_10 ⟨rfl, by decide +kernel⟩ rfl ⟨rfl, rfl⟩ ⟨Nat.le_of_ble_eq_true rfl, Nat.le_of_ble_eq_true rfl⟩ (Nat.le_of_ble_eq_true rfl) dX0_update_38 ⟨Nat.zero_le _, Nat.zero_le _⟩ rfl (fun H locs hI => ?_)
      refine kb_ne (tgt := 54) cx dX0_update_41 (by decide) (fun c_3 => ?_) (fun c_3 => ?_)
      · refine lv_aload_n cx.1 cx.2.1 dX0_update_54 rfl (lv_at hl 0 rfl) ?_
        refine lv_iload_n cx.1 cx.2.1 dX0_update_55 rfl (lv_at hl 1 rfl) ?_
        refine lv_iload_n cx.1 cx.2.1 dX0_update_56 rfl (lv_at hl 2 rfl) ?_
        refine lv_iload_n cx.1 cx.2.1 dX0_update_57 rfl (lv_at hl 3 rfl) ?_
        refine xc_v 3 cx (hl.1.trans hml.symm) (kX0_putRow l D ca ad v key a b hk) hI wk_268 wk_265 wk_267 wq_11 ⟨rfl, by decide +kernel⟩ rfl ⟨rfl, rfl⟩ ⟨Nat.le_of_ble_eq_true rfl, Nat.le_of_ble_eq_true rfl⟩ (Nat.le_of_ble_eq_true rfl) dX0_update_58 ⟨Nat.zero_le _, Nat.zero_le _⟩ rfl (fun H locs hI => ?_)
        refine lv_aload_n cx.1 cx.2.1 dX0_update_61 rfl (lv_at hl 0 rfl) ?_
        refine lv_iload_n cx.1 cx.2.1 dX0_update_62 rfl (lv_at hl 1 rfl) ?_
        refine xc_v 1 cx (hl.1.trans hml.symm) (kX0_followWrite l D ca ad (xPut v key a b) key hk h0) hI wk_272 wk_269 wk_271 wq_12 ⟨rfl, by decide +kernel⟩ rfl ⟨rfl, rfl⟩ ⟨Nat.le_of_ble_eq_true rfl, Nat.le_of_ble_eq_true rfl⟩ (Nat.le_of_ble_eq_true rfl) dX0_update_63 ⟨Nat.zero_le _, Nat.zero_le _⟩ rfl (fun H locs hI => ?_)
        exact ke_x (by simp [xfUpdate, c_1, c_2, c_3]) (ke_v cx hr hlk hI (Nat.zero_le _) (Nat.zero_le _) dX0_update_66 rfl rfl)
      · exact kt_nse cx hlS hlk htab hE hI (hl.1.trans hml.symm) (show (82, "there is no row with this key") ∈ kstrs by decide) dX0_update_44 dX0_update_47 dX0_update_48 dX0_update_50 dX0_update_53 ⟨Nat.le_of_ble_eq_true rfl, Nat.le_of_ble_eq_true rfl⟩ ⟨Nat.le_of_ble_eq_true rfl, Nat.le_of_ble_eq_true rfl⟩ (Or.inr (Or.inr (⟨(by simp [xfUpdate, c_1, c_2, c_3]), rfl⟩)))
    · exact kt_iae cx hlS hlk htab hE hI (hl.1.trans hml.symm) (show (61, "a or b is out of range, or the row does not fit") ∈ kstrs by decide) dX0_update_26 dX0_update_29 dX0_update_30 dX0_update_32 dX0_update_35 ⟨Nat.le_of_ble_eq_true rfl, Nat.le_of_ble_eq_true rfl⟩ ⟨Nat.le_of_ble_eq_true rfl, Nat.le_of_ble_eq_true rfl⟩ (Or.inr (Or.inl (⟨(by simp [xfUpdate, c_1, c_2]), rfl⟩)))
  · exact kt_iob cx hlS hlk htab hE hI (hl.1.trans hml.symm) (show (50, "there is no such key") ∈ kstrs by decide) dX0_update_7 dX0_update_10 dX0_update_11 dX0_update_13 dX0_update_16 ⟨Nat.le_of_ble_eq_true rfl, Nat.le_of_ble_eq_true rfl⟩ ⟨Nat.le_of_ble_eq_true rfl, Nat.le_of_ble_eq_true rfl⟩ (Or.inl (⟨(by simp [xfUpdate, c_1]), rfl⟩))
set_option maxHeartbeats 4000000 in
set_option maxRecDepth 100000 in
theorem kX0_delete (l : Launch) (D : va_G) (ca : Nat → ClassId) (ad : Nat → Nat) (v : XS) (key : Int32) (h0 : ¬ xc v < 0) (hlS : l.stackTraces = false) : CX l yX0_delete cX0_delete 3 (some .int) (KR1 6 129) D ca (xw ad ca v) [.ref (ad 0), .int key] (xfDelete v key = 0) (some (.int (xRow v key))) (xw ad ca (xFollow (xPut v key (-1) (-1)) key)) (fun E => (xfDelete v key = 1 ∧ E = "java/lang/IndexOutOfBoundsException") ∨ (xfDelete v key = 2 ∧ E = "java/util/NoSuchElementException")) := by
  refine CX.of (by decide) (Nat.le_of_ble_eq_true rfl) ?_
  intro p e s m below meth c A ls cx hml hr hlk htab hE hI hl
  have hl : lv_has ls 3 [(0, .ref (ad 0)), (1, .int key)] := hl
  refine lv_iload_n cx.1 cx.2.1 dX0_delete_0 rfl (lv_at hl 1 rfl) ?_
  refine ks_i 1 cx (hl.1.trans hml.symm) (kX0_isKey l D ca key) hI wk_89 wk_87 wk_88 wk_1 ⟨by decide, by decide, by decide +kernel⟩ rfl ⟨rfl, rfl⟩ ⟨Nat.le_of_ble_eq_true rfl, Nat.le_of_ble_eq_true rfl⟩ (Nat.le_of_ble_eq_true rfl) dX0_delete_1 ⟨Nat.zero_le _, Nat.zero_le _⟩ rfl (fun H locs hI => ?_)
  refine kb_ne (tgt := 17) cx dX0_delete_4 (by decide) (fun c_1 => ?_) (fun c_1 => ?_)
  · have hk : vp_in key 40 := xKey_in c_1
    refine lv_aload_n cx.1 cx.2.1 dX0_delete_17 rfl (lv_at hl 0 rfl) ?_
    refine lv_iload_n cx.1 cx.2.1 dX0_delete_18 rfl (lv_at hl 1 rfl) ?_
    refine xc_i 1 cx (hl.1.trans hml.symm) (kX0_isSeen l D ca ad v key hk) hI wk_248 wk_245 wk_247 wq_10 ⟨rfl, by decide +kernel⟩ rfl ⟨rfl, rfl⟩ ⟨Nat.le_of_ble_eq_true rfl, Nat.le_of_ble_eq_true rfl⟩ (Nat.le_of_ble_eq_true rfl) dX0_delete_19 ⟨Nat.zero_le _, Nat.zero_le _⟩ rfl (fun H locs hI => ?_)
    refine kb_ne (tgt := 35) cx dX0_delete_22 (by decide) (fun c_2 => ?_) (fun c_2 => ?_)
    · refine lv_aload_n cx.1 cx.2.1 dX0_delete_35 rfl (lv_at hl 0 rfl) ?_
      refine lv_iload_n cx.1 cx.2.1 dX0_delete_36 rfl (lv_at hl 1 rfl) ?_
      refine xc_i 1 cx (hl.1.trans hml.symm) (kX0_rowAsNumber l D ca ad v key hk) hI wk_325 wk_322 wk_324 wq_16 ⟨rfl, by decide +kernel⟩ rfl ⟨rfl, rfl⟩ ⟨Nat.le_of_ble_eq_true rfl, Nat.le_of_ble_eq_true rfl⟩ (Nat.le_of_ble_eq_true rfl) dX0_delete_37 ⟨Nat.zero_le _, Nat.zero_le _⟩ rfl (fun H locs hI => ?_)
      refine lv_istore_n (lv' := [(2, .int (xRow v key)), (0, .ref (ad 0)), (1, .int key)]) cx.1 cx.2.1 dX0_delete_40 rfl hl (by decide) rfl (fun ls hl => ?_)
      refine lv_aload_n cx.1 cx.2.1 dX0_delete_41 rfl (lv_at hl 1 rfl) ?_
      refine lv_iload_n cx.1 cx.2.1 dX0_delete_42 rfl (lv_at hl 2 rfl) ?_
      refine xc_v 1 cx (hl.1.trans hml.symm) (kX0_removeRow l D ca ad v key hk) hI wk_311 wk_308 wk_310 wq_15 ⟨rfl, by decide +kernel⟩ rfl ⟨rfl, rfl⟩ ⟨Nat.le_of_ble_eq_true rfl, Nat.le_of_ble_eq_true rfl⟩ (Nat.le_of_ble_eq_true rfl) dX0_delete_43 ⟨Nat.zero_le _, Nat.zero_le _⟩ rfl (fun H locs hI => ?_)
      refine lv_aload_n cx.1 cx.2.1 dX0_delete_46 rfl (lv_at hl 1 rfl) ?_
      refine lv_iload_n cx.1 cx.2.1 dX0_delete_47 rfl (lv_at hl 2 rfl) ?_
      refine xc_v 1 cx (hl.1.trans hml.symm) (kX0_followWrite l D ca ad (xPut v key (-1) (-1)) key hk h0) hI wk_272 wk_269 wk_271 wq_12 ⟨rfl, by decide +kernel⟩ rfl ⟨rfl, rfl⟩ ⟨Nat.le_of_ble_eq_true rfl, Nat.le_of_ble_eq_true rfl⟩ (Nat.le_of_ble_eq_true rfl) dX0_delete_48 ⟨Nat.zero_le _, Nat.zero_le _⟩ rfl (fun H locs hI => ?_)
      refine lv_iload_n cx.1 cx.2.1 dX0_delete_51 rfl (lv_at hl 0 rfl) ?_
      exact ke_x (by simp [xfDelete, c_1, c_2]) (ke_i cx hr hlk hI (Nat.zero_le _) (Nat.zero_le _) dX0_delete_52 rfl rfl)
    · exact kt_nse cx hlS hlk htab hE hI (hl.1.trans hml.symm) (show (82, "there is no row with this key") ∈ kstrs by decide) dX0_delete_25 dX0_delete_28 dX0_delete_29 dX0_delete_31 dX0_delete_34 ⟨Nat.le_of_ble_eq_true rfl, Nat.le_of_ble_eq_true rfl⟩ ⟨Nat.le_of_ble_eq_true rfl, Nat.le_of_ble_eq_true rfl⟩ (Or.inr (⟨(by simp [xfDelete, c_1, c_2]), rfl⟩))
  · exact kt_iob cx hlS hlk htab hE hI (hl.1.trans hml.symm) (show (50, "there is no such key") ∈ kstrs by decide) dX0_delete_7 dX0_delete_10 dX0_delete_11 dX0_delete_13 dX0_delete_16 ⟨Nat.le_of_ble_eq_true rfl, Nat.le_of_ble_eq_true rfl⟩ ⟨Nat.le_of_ble_eq_true rfl, Nat.le_of_ble_eq_true rfl⟩ (Or.inl (⟨(by simp [xfDelete, c_1]), rfl⟩))
set_option maxHeartbeats 4000000 in
set_option maxRecDepth 100000 in
theorem kX0_rekey (l : Launch) (D : va_G) (ca : Nat → ClassId) (ad : Nat → Nat) (v : XS) (key to : Int32) (h0 : ¬ xc v < 0) (hlS : l.stackTraces = false) : CX l yX0_rekey cX0_rekey 3 none (KR1 6 129) D ca (xw ad ca v) [.ref (ad 0), .int key, .int to] (xfRekey v key to = 0) none (xw ad ca (xRekey v key to)) (fun E => (xfRekey v key to = 1 ∧ E = "java/lang/IndexOutOfBoundsException") ∨ (xfRekey v key to = 2 ∧ E = "java/lang/IllegalArgumentException") ∨ (xfRekey v key to = 3 ∧ E = "java/util/NoSuchElementException") ∨ (xfRekey v key to = 4 ∧ E = "java/lang/IllegalStateException")) := by
  refine CX.of (by decide) (Nat.le_of_ble_eq_true rfl) ?_
  intro p e s m below meth c A ls cx hml hr hlk htab hE hI hl
  have hl : lv_has ls 3 [(0, .ref (ad 0)), (1, .int key), (2, .int to)] := hl
  refine lv_iload_n cx.1 cx.2.1 dX0_rekey_0 rfl (lv_at hl 1 rfl) ?_
  refine ks_i 1 cx (hl.1.trans hml.symm) (kX0_isKey l D ca key) hI wk_89 wk_87 wk_88 wk_1 ⟨by decide, by decide, by decide +kernel⟩ rfl ⟨rfl, rfl⟩ ⟨Nat.le_of_ble_eq_true rfl, Nat.le_of_ble_eq_true rfl⟩ (Nat.le_of_ble_eq_true rfl) dX0_rekey_1 ⟨Nat.zero_le _, Nat.zero_le _⟩ rfl (fun H locs hI => ?_)
  refine kb_eq (tgt := 14) cx dX0_rekey_4 (by decide) (fun c_1 => ?_) (fun c_1 => ?_)
  · exact kt_iob cx hlS hlk htab hE hI (hl.1.trans hml.symm) (show (50, "there is no such key") ∈ kstrs by decide) dX0_rekey_14 dX0_rekey_17 dX0_rekey_18 dX0_rekey_20 dX0_rekey_23 ⟨Nat.le_of_ble_eq_true rfl, Nat.le_of_ble_eq_true rfl⟩ ⟨Nat.le_of_ble_eq_true rfl, Nat.le_of_ble_eq_true rfl⟩ (Or.inl (⟨(by simp [xRekey, xfRekey, c_1]), rfl⟩))
  · refine lv_iload_n cx.1 cx.2.1 dX0_rekey_7 rfl (lv_at hl 2 rfl) ?_
    refine ks_i 1 cx (hl.1.trans hml.symm) (kX0_isKey l D ca to) hI wk_89 wk_87 wk_88 wk_1 ⟨by decide, by decide, by decide +kernel⟩ rfl ⟨rfl, rfl⟩ ⟨Nat.le_of_ble_eq_true rfl, Nat.le_of_ble_eq_true rfl⟩ (Nat.le_of_ble_eq_true rfl) dX0_rekey_8 ⟨Nat.zero_le _, Nat.zero_le _⟩ rfl (fun H locs hI => ?_)
    refine kb_ne (tgt := 24) cx dX0_rekey_11 (by decide) (fun c_2 => ?_) (fun c_2 => ?_)
    · have hk : vp_in key 40 := xKey_in c_1
      have hk2 : vp_in to 40 := xKey_in c_2
      refine lv_iload_n cx.1 cx.2.1 dX0_rekey_24 rfl (lv_at hl 1 rfl) ?_
      refine lv_iload_n cx.1 cx.2.1 dX0_rekey_25 rfl (lv_at hl 2 rfl) ?_
      refine lv_icmp_ne (tgt := 39) cx.1 cx.2.1 dX0_rekey_26 (by decide) (fun c_3 => ?_) (fun c_3 => ?_)
      · refine lv_aload_n cx.1 cx.2.1 dX0_rekey_39 rfl (lv_at hl 0 rfl) ?_
        refine lv_iload_n cx.1 cx.2.1 dX0_rekey_40 rfl (lv_at hl 1 rfl) ?_
        refine xc_i 1 cx (hl.1.trans hml.symm) (kX0_isSeen l D ca ad v key hk) hI wk_248 wk_245 wk_247 wq_10 ⟨rfl, by decide +kernel⟩ rfl ⟨rfl, rfl⟩ ⟨Nat.le_of_ble_eq_true rfl, Nat.le_of_ble_eq_true rfl⟩ (Nat.le_of_ble_eq_true rfl) dX0_rekey_41 ⟨Nat.zero_le _, Nat.zero_le _⟩ rfl (fun H locs hI => ?_)
        refine kb_ne (tgt := 57) cx dX0_rekey_44 (by decide) (fun c_4 => ?_) (fun c_4 => ?_)
        · refine lv_aload_n cx.1 cx.2.1 dX0_rekey_57 rfl (lv_at hl 0 rfl) ?_
          refine lv_iload_n cx.1 cx.2.1 dX0_rekey_58 rfl (lv_at hl 2 rfl) ?_
          refine xc_i 1 cx (hl.1.trans hml.symm) (kX0_isSeen l D ca ad v to hk2) hI wk_248 wk_245 wk_247 wq_10 ⟨rfl, by decide +kernel⟩ rfl ⟨rfl, rfl⟩ ⟨Nat.le_of_ble_eq_true rfl, Nat.le_of_ble_eq_true rfl⟩ (Nat.le_of_ble_eq_true rfl) dX0_rekey_59 ⟨Nat.zero_le _, Nat.zero_le _⟩ rfl (fun H locs hI => ?_)
          refine kb_eq (tgt := 75) cx dX0_rekey_62 (by decide) (fun c_5 => ?_) (fun c_5 => ?_)
          · refine lv_aload_n cx.1 cx.2.1 dX0_rekey_75 rfl (lv_at hl 0 rfl) ?_
            refine lv_iload_n cx.1 cx.2.1 dX0_rekey_76 rfl (lv_at hl 2 rfl) ?_
            refine lv_aload_n cx.1 cx.2.1 dX0_rekey_77 rfl (lv_at hl 0 rfl) ?_
            refine xg_0 cx hI dX0_rekey_78 ?_
            refine lv_iload_n cx.1 cx.2.1 dX0_rekey_81 rfl (lv_at hl 1 rfl) ?_
            refine xa_A cx hI hk dX0_rekey_82 ?_
            refine lv_aload_n cx.1 cx.2.1 dX0_rekey_83 rfl (lv_at hl 0 rfl) ?_
            refine xg_1 cx hI dX0_rekey_84 ?_
            refine lv_iload_n cx.1 cx.2.1 dX0_rekey_87 rfl (lv_at hl 1 rfl) ?_
            refine xa_B cx hI hk dX0_rekey_88 ?_
            refine xc_v 3 cx (hl.1.trans hml.symm) (kX0_putRow l D ca ad v to (xA v key.toNatClampNeg) (xB v key.toNatClampNeg) hk2) hI wk_268 wk_265 wk_267 wq_11 ⟨rfl, by decide +kernel⟩ rfl ⟨rfl, rfl⟩ ⟨Nat.le_of_ble_eq_true rfl, Nat.le_of_ble_eq_true rfl⟩ (Nat.le_of_ble_eq_true rfl) dX0_rekey_89 ⟨Nat.zero_le _, Nat.zero_le _⟩ rfl (fun H locs hI => ?_)
            refine lv_aload_n cx.1 cx.2.1 dX0_rekey_92 rfl (lv_at hl 0 rfl) ?_
            refine lv_iload_n cx.1 cx.2.1 dX0_rekey_93 rfl (lv_at hl 1 rfl) ?_
            refine xc_v 1 cx (hl.1.trans hml.symm) (kX0_removeRow l D ca ad (xPut v to (xA v key.toNatClampNeg) (xB v key.toNatClampNeg)) key hk) hI wk_311 wk_308 wk_310 wq_15 ⟨rfl, by decide +kernel⟩ rfl ⟨rfl, rfl⟩ ⟨Nat.le_of_ble_eq_true rfl, Nat.le_of_ble_eq_true rfl⟩ (Nat.le_of_ble_eq_true rfl) dX0_rekey_94 ⟨Nat.zero_le _, Nat.zero_le _⟩ rfl (fun H locs hI => ?_)
            refine lv_aload_n cx.1 cx.2.1 dX0_rekey_97 rfl (lv_at hl 0 rfl) ?_
            refine lv_iload_n cx.1 cx.2.1 dX0_rekey_98 rfl (lv_at hl 1 rfl) ?_
            refine lv_iload_n cx.1 cx.2.1 dX0_rekey_99 rfl (lv_at hl 2 rfl) ?_
            refine k_mmin cx (hml.trans hl.1.symm) (cx.2.2.2.1 _ wk_312) (Nat.le_of_ble_eq_true rfl) (Nat.le_of_ble_eq_true rfl) (Nat.zero_le _) (Nat.zero_le _) dX0_rekey_100 ?_
            refine k_top (y := kMin key to) rfl ?_
            refine xc_v 1 cx (hl.1.trans hml.symm) (kX0_followWrite l D ca ad (xPut (xPut v to (xA v key.toNatClampNeg) (xB v key.toNatClampNeg)) key (-1) (-1)) (kMin key to) (kMin_in hk hk2) h0) hI wk_272 wk_269 wk_271 wq_12 ⟨rfl, by decide +kernel⟩ rfl ⟨rfl, rfl⟩ ⟨Nat.le_of_ble_eq_true rfl, Nat.le_of_ble_eq_true rfl⟩ (Nat.le_of_ble_eq_true rfl) dX0_rekey_103 ⟨Nat.zero_le _, Nat.zero_le _⟩ rfl (fun H locs hI => ?_)
            refine lv_aload_n cx.1 cx.2.1 dX0_rekey_106 rfl (lv_at hl 0 rfl) ?_
            refine lv_iload_n cx.1 cx.2.1 dX0_rekey_107 rfl (lv_at hl 1 rfl) ?_
            refine lv_iload_n cx.1 cx.2.1 dX0_rekey_108 rfl (lv_at hl 2 rfl) ?_
            refine k_mmax cx (hml.trans hl.1.symm) (cx.2.2.2.1 _ wk_315) (Nat.le_of_ble_eq_true rfl) (Nat.le_of_ble_eq_true rfl) (Nat.zero_le _) (Nat.zero_le _) dX0_rekey_109 ?_
            refine k_top (y := kMax key to) rfl ?_
            refine xc_v 1 cx (hl.1.trans hml.symm) (kX0_followWrite l D ca ad (xFollow (xPut (xPut v to (xA v key.toNatClampNeg) (xB v key.toNatClampNeg)) key (-1) (-1)) (kMin key to)) (kMax key to) (kMax_in hk hk2) (xFollow_c h0)) hI wk_272 wk_269 wk_271 wq_12 ⟨rfl, by decide +kernel⟩ rfl ⟨rfl, rfl⟩ ⟨Nat.le_of_ble_eq_true rfl, Nat.le_of_ble_eq_true rfl⟩ (Nat.le_of_ble_eq_true rfl) dX0_rekey_112 ⟨Nat.zero_le _, Nat.zero_le _⟩ rfl (fun H locs hI => ?_)
            exact ke_x (by simp [xRekey, xfRekey, c_1, c_2, c_3, c_4, c_5]) (ke_v cx hr hlk hI (Nat.zero_le _) (Nat.zero_le _) dX0_rekey_115 rfl (congrArg (xw ad ca) (by simp [xRekey, xfRekey, c_1, c_2, c_3, c_4, c_5])))
          · exact kt_ise cx hlS hlk htab hE hI (hl.1.trans hml.symm) (show (96, "there is a row with the other key") ∈ kstrs by decide) dX0_rekey_65 dX0_rekey_68 dX0_rekey_69 dX0_rekey_71 dX0_rekey_74 ⟨Nat.le_of_ble_eq_true rfl, Nat.le_of_ble_eq_true rfl⟩ ⟨Nat.le_of_ble_eq_true rfl, Nat.le_of_ble_eq_true rfl⟩ (Or.inr (Or.inr (Or.inr (⟨(by simp [xRekey, xfRekey, c_1, c_2, c_3, c_4, c_5]), rfl⟩))))
        · exact kt_nse cx hlS hlk htab hE hI (hl.1.trans hml.symm) (show (94, "there is no row with the first key") ∈ kstrs by decide) dX0_rekey_47 dX0_rekey_50 dX0_rekey_51 dX0_rekey_53 dX0_rekey_56 ⟨Nat.le_of_ble_eq_true rfl, Nat.le_of_ble_eq_true rfl⟩ ⟨Nat.le_of_ble_eq_true rfl, Nat.le_of_ble_eq_true rfl⟩ (Or.inr (Or.inr (Or.inl (⟨(by simp [xRekey, xfRekey, c_1, c_2, c_3, c_4]), rfl⟩))))
      · exact kt_iae cx hlS hlk htab hE hI (hl.1.trans hml.symm) (show (92, "both keys are the same") ∈ kstrs by decide) dX0_rekey_29 dX0_rekey_32 dX0_rekey_33 dX0_rekey_35 dX0_rekey_38 ⟨Nat.le_of_ble_eq_true rfl, Nat.le_of_ble_eq_true rfl⟩ ⟨Nat.le_of_ble_eq_true rfl, Nat.le_of_ble_eq_true rfl⟩ (Or.inr (Or.inl (⟨(by simp [xRekey, xfRekey, c_1, c_2, c_3]), rfl⟩)))
    · exact kt_iob cx hlS hlk htab hE hI (hl.1.trans hml.symm) (show (50, "there is no such key") ∈ kstrs by decide) dX0_rekey_14 dX0_rekey_17 dX0_rekey_18 dX0_rekey_20 dX0_rekey_23 ⟨Nat.le_of_ble_eq_true rfl, Nat.le_of_ble_eq_true rfl⟩ ⟨Nat.le_of_ble_eq_true rfl, Nat.le_of_ble_eq_true rfl⟩ (Or.inl (⟨(by simp [xRekey, xfRekey, c_1, c_2]), rfl⟩))
set_option maxHeartbeats 4000000 in
set_option maxRecDepth 100000 in
theorem kX0_start (l : Launch) (D : va_G) (ca : Nat → ClassId) (ad : Nat → Nat) (v : XS) (al pa : Int32) (hlS : l.stackTraces = false) : CX l yX0_start cX0_start 3 none (KR1 6 82) D ca (xw ad ca v) [.ref (ad 0), .int al, .int pa] (xfStart v al pa = 0) none (xw ad ca (xStart v al pa)) (fun E => (xfStart v al pa = 1 ∧ E = "java/lang/IllegalArgumentException") ∨ (xfStart v al pa = 2 ∧ E = "java/lang/IllegalStateException")) := by
  refine CX.of (by decide) (Nat.le_of_ble_eq_true rfl) ?_
  intro p e s m below meth c A ls cx hml hr hlk htab hE hI hl
  have hl : lv_has ls 3 [(0, .ref (ad 0)), (1, .int al), (2, .int pa)] := hl
  refine lv_iload_n cx.1 cx.2.1 dX0_start_0 rfl (lv_at hl 1 rfl) ?_
  refine lv_iconst (v := 0) cx.1 cx.2.1 dX0_start_1 (by decide) ?_
  refine lv_iconst (v := 2) cx.1 cx.2.1 dX0_start_2 (by decide) ?_
  refine ks_i 3 cx (hl.1.trans hml.symm) (kX0_isWithin l D ca al 0 2) hI wk_92 wk_90 wk_91 wk_1 ⟨by decide, by decide, by decide +kernel⟩ rfl ⟨rfl, rfl⟩ ⟨Nat.le_of_ble_eq_true rfl, Nat.le_of_ble_eq_true rfl⟩ (Nat.le_of_ble_eq_true rfl) dX0_start_3 ⟨Nat.zero_le _, Nat.zero_le _⟩ rfl (fun H locs hI => ?_)
  refine kb_eq (tgt := 20) cx dX0_start_6 (by decide) (fun c_1 => ?_) (fun c_1 => ?_)
  · exact kt_iae cx hlS hlk htab hE hI (hl.1.trans hml.symm) (show (111, "alteration or parameter is out of range") ∈ kstrs by decide) dX0_start_20 dX0_start_23 dX0_start_24 dX0_start_26 dX0_start_29 ⟨Nat.le_of_ble_eq_true rfl, Nat.le_of_ble_eq_true rfl⟩ ⟨Nat.le_of_ble_eq_true rfl, Nat.le_of_ble_eq_true rfl⟩ (Or.inl (⟨(by simp [xStart, xfStart, c_1]), rfl⟩))
  · refine lv_iload_n cx.1 cx.2.1 dX0_start_9 rfl (lv_at hl 2 rfl) ?_
    refine lv_iconst (v := 0) cx.1 cx.2.1 dX0_start_10 (by decide) ?_
    refine lv_sipush (v := 999) cx.1 cx.2.1 dX0_start_11 (by decide) ?_
    refine ks_i 3 cx (hl.1.trans hml.symm) (kX0_isWithin l D ca pa 0 999) hI wk_92 wk_90 wk_91 wk_1 ⟨by decide, by decide, by decide +kernel⟩ rfl ⟨rfl, rfl⟩ ⟨Nat.le_of_ble_eq_true rfl, Nat.le_of_ble_eq_true rfl⟩ (Nat.le_of_ble_eq_true rfl) dX0_start_14 ⟨Nat.zero_le _, Nat.zero_le _⟩ rfl (fun H locs hI => ?_)
    refine kb_ne (tgt := 30) cx dX0_start_17 (by decide) (fun c_2 => ?_) (fun c_2 => ?_)
    · refine lv_aload_n cx.1 cx.2.1 dX0_start_30 rfl (lv_at hl 0 rfl) ?_
      refine xg_6 cx hI dX0_start_31 ?_
      refine lv_if_eq (tgt := 47) cx.1 cx.2.1 dX0_start_34 (by decide) (fun c_3 => ?_) (fun c_3 => ?_)
      · refine lv_aload_n cx.1 cx.2.1 dX0_start_47 rfl (lv_at hl 0 rfl) ?_
        refine lv_iload_n cx.1 cx.2.1 dX0_start_48 rfl (lv_at hl 1 rfl) ?_
        refine xp_8 cx hI dX0_start_49 (fun H locs hI => ?_)
        refine lv_aload_n cx.1 cx.2.1 dX0_start_52 rfl (lv_at hl 0 rfl) ?_
        refine lv_iload_n cx.1 cx.2.1 dX0_start_53 rfl (lv_at hl 2 rfl) ?_
        refine xp_9 cx hI dX0_start_54 (fun H locs hI => ?_)
        refine lv_aload_n cx.1 cx.2.1 dX0_start_57 rfl (lv_at hl 0 rfl) ?_
        refine lv_iconst (v := 0) cx.1 cx.2.1 dX0_start_58 (by decide) ?_
        refine xp_7 cx hI dX0_start_59 (fun H locs hI => ?_)
        refine lv_aload_n cx.1 cx.2.1 dX0_start_62 rfl (lv_at hl 0 rfl) ?_
        refine lv_iconst (v := 1) cx.1 cx.2.1 dX0_start_63 (by decide) ?_
        refine xp_6 cx hI dX0_start_64 (fun H locs hI => ?_)
        exact ke_x (by simp [xStart, xfStart, c_1, c_2, c_3]) (ke_v cx hr hlk hI (Nat.zero_le _) (Nat.zero_le _) dX0_start_67 rfl (congrArg (xw ad ca) (by simp [xStart, xfStart, c_1, c_2, c_3])))
      · exact kt_ise cx hlS hlk htab hE hI (hl.1.trans hml.symm) (show (113, "the phase is not IDLE") ∈ kstrs by decide) dX0_start_37 dX0_start_40 dX0_start_41 dX0_start_43 dX0_start_46 ⟨Nat.le_of_ble_eq_true rfl, Nat.le_of_ble_eq_true rfl⟩ ⟨Nat.le_of_ble_eq_true rfl, Nat.le_of_ble_eq_true rfl⟩ (Or.inr (⟨(by simp [xStart, xfStart, c_1, c_2, c_3]), rfl⟩))
    · exact kt_iae cx hlS hlk htab hE hI (hl.1.trans hml.symm) (show (111, "alteration or parameter is out of range") ∈ kstrs by decide) dX0_start_20 dX0_start_23 dX0_start_24 dX0_start_26 dX0_start_29 ⟨Nat.le_of_ble_eq_true rfl, Nat.le_of_ble_eq_true rfl⟩ ⟨Nat.le_of_ble_eq_true rfl, Nat.le_of_ble_eq_true rfl⟩ (Or.inl (⟨(by simp [xStart, xfStart, c_1, c_2]), rfl⟩))
set_option maxHeartbeats 4000000 in
set_option maxRecDepth 100000 in
theorem kX0_setPace (l : Launch) (D : va_G) (ca : Nat → ClassId) (ad : Nat → Nat) (v : XS) (ch lag : Int32) (hlS : l.stackTraces = false) : CX l yX0_setPace cX0_setPace 3 none (KR1 6 82) D ca (xw ad ca v) [.ref (ad 0), .int ch, .int lag] (xfPace ch lag = 0) none (xw ad ca (xUl (xUk v ch) lag)) (fun E => (xfPace ch lag = 1 ∧ E = "java/lang/IllegalArgumentException")) := by
  refine CX.of (by decide) (Nat.le_of_ble_eq_true rfl) ?_
  intro p e s m below meth c A ls cx hml hr hlk htab hE hI hl
  have hl : lv_has ls 3 [(0, .ref (ad 0)), (1, .int ch), (2, .int lag)] := hl
  refine lv_iload_n cx.1 cx.2.1 dX0_setPace_0 rfl (lv_at hl 1 rfl) ?_
  refine lv_iconst (v := 1) cx.1 cx.2.1 dX0_setPace_1 (by decide) ?_
  refine lv_bipush (v := 40) cx.1 cx.2.1 dX0_setPace_2 (by decide) ?_
  refine ks_i 3 cx (hl.1.trans hml.symm) (kX0_isWithin l D ca ch 1 40) hI wk_92 wk_90 wk_91 wk_1 ⟨by decide, by decide, by decide +kernel⟩ rfl ⟨rfl, rfl⟩ ⟨Nat.le_of_ble_eq_true rfl, Nat.le_of_ble_eq_true rfl⟩ (Nat.le_of_ble_eq_true rfl) dX0_setPace_4 ⟨Nat.zero_le _, Nat.zero_le _⟩ rfl (fun H locs hI => ?_)
  refine kb_eq (tgt := 20) cx dX0_setPace_7 (by decide) (fun c_1 => ?_) (fun c_1 => ?_)
  · exact kt_iae cx hlS hlk htab hE hI (hl.1.trans hml.symm) (show (124, "chunk or lag is out of range") ∈ kstrs by decide) dX0_setPace_20 dX0_setPace_23 dX0_setPace_24 dX0_setPace_26 dX0_setPace_29 ⟨Nat.le_of_ble_eq_true rfl, Nat.le_of_ble_eq_true rfl⟩ ⟨Nat.le_of_ble_eq_true rfl, Nat.le_of_ble_eq_true rfl⟩ (⟨(by simp [xfPace, c_1]), rfl⟩)
  · refine lv_iload_n cx.1 cx.2.1 dX0_setPace_10 rfl (lv_at hl 2 rfl) ?_
    refine lv_iconst (v := 0) cx.1 cx.2.1 dX0_setPace_11 (by decide) ?_
    refine lv_bipush (v := 100) cx.1 cx.2.1 dX0_setPace_12 (by decide) ?_
    refine ks_i 3 cx (hl.1.trans hml.symm) (kX0_isWithin l D ca lag 0 100) hI wk_92 wk_90 wk_91 wk_1 ⟨by decide, by decide, by decide +kernel⟩ rfl ⟨rfl, rfl⟩ ⟨Nat.le_of_ble_eq_true rfl, Nat.le_of_ble_eq_true rfl⟩ (Nat.le_of_ble_eq_true rfl) dX0_setPace_14 ⟨Nat.zero_le _, Nat.zero_le _⟩ rfl (fun H locs hI => ?_)
    refine kb_ne (tgt := 30) cx dX0_setPace_17 (by decide) (fun c_2 => ?_) (fun c_2 => ?_)
    · refine lv_aload_n cx.1 cx.2.1 dX0_setPace_30 rfl (lv_at hl 0 rfl) ?_
      refine lv_iload_n cx.1 cx.2.1 dX0_setPace_31 rfl (lv_at hl 1 rfl) ?_
      refine xp_10 cx hI dX0_setPace_32 (fun H locs hI => ?_)
      refine lv_aload_n cx.1 cx.2.1 dX0_setPace_35 rfl (lv_at hl 0 rfl) ?_
      refine lv_iload_n cx.1 cx.2.1 dX0_setPace_36 rfl (lv_at hl 2 rfl) ?_
      refine xp_11 cx hI dX0_setPace_37 (fun H locs hI => ?_)
      exact ke_x (by simp [xfPace, c_1, c_2]) (ke_v cx hr hlk hI (Nat.zero_le _) (Nat.zero_le _) dX0_setPace_40 rfl rfl)
    · exact kt_iae cx hlS hlk htab hE hI (hl.1.trans hml.symm) (show (124, "chunk or lag is out of range") ∈ kstrs by decide) dX0_setPace_20 dX0_setPace_23 dX0_setPace_24 dX0_setPace_26 dX0_setPace_29 ⟨Nat.le_of_ble_eq_true rfl, Nat.le_of_ble_eq_true rfl⟩ ⟨Nat.le_of_ble_eq_true rfl, Nat.le_of_ble_eq_true rfl⟩ (⟨(by simp [xfPace, c_1, c_2]), rfl⟩)
set_option maxHeartbeats 4000000 in
set_option maxRecDepth 100000 in
theorem kX0_tick (l : Launch) (D : va_G) (ca : Nat → ClassId) (ad : Nat → Nat) (v : XS) (lag : Int32) (mk n cn nn : Nat) (hm : xm v = nI mk) (he : ¬ (40 : Int32) ≤ xm v → xCopyE v = nI (mk + n)) (hle : ¬ (40 : Int32) ≤ xm v → mk + n ≤ 40) (hc : kMin (xk v) (xc v) = nI cn) (hn : xc v = nI nn) (hcn : cn ≤ nn) (hn2 : nn ≤ 1024) (hN : ∀ j, j < cn → vp_in (xN v (nI j).toNatClampNeg) 40) (hlS : l.stackTraces = false) : CX l yX0_tick cX0_tick 2 (some .int) (KR1 6 131) D ca (xw ad ca v) [.ref (ad 0), .int lag] (xfTick v lag = 0) (some (.int (if lag ≤ xl v then (if 40 ≤ xm v then kMin (xk v) (xc v) else xCopyE v - xm v) else 0))) (xw ad ca (if lag ≤ xl v then (if 40 ≤ xm v then xPlay v cn else xCopy v mk n) else v)) (fun E => (xfTick v lag = 1 ∧ E = "java/lang/IllegalArgumentException") ∨ (xfTick v lag = 2 ∧ E = "java/lang/IllegalStateException")) := by
  refine CX.of (by decide) (Nat.le_of_ble_eq_true rfl) ?_
  intro p e s m below meth c A ls cx hml hr hlk htab hE hI hl
  have hl : lv_has ls 2 [(0, .ref (ad 0)), (1, .int lag)] := hl
  refine lv_iload_n cx.1 cx.2.1 dX0_tick_0 rfl (lv_at hl 1 rfl) ?_
  refine lv_iconst (v := 0) cx.1 cx.2.1 dX0_tick_1 (by decide) ?_
  refine lv_sipush (v := 1000) cx.1 cx.2.1 dX0_tick_2 (by decide) ?_
  refine ks_i 3 cx (hl.1.trans hml.symm) (kX0_isWithin l D ca lag 0 1000) hI wk_92 wk_90 wk_91 wk_1 ⟨by decide, by decide, by decide +kernel⟩ rfl ⟨rfl, rfl⟩ ⟨Nat.le_of_ble_eq_true rfl, Nat.le_of_ble_eq_true rfl⟩ (Nat.le_of_ble_eq_true rfl) dX0_tick_5 ⟨Nat.zero_le _, Nat.zero_le _⟩ rfl (fun H locs hI => ?_)
  refine kb_ne (tgt := 21) cx dX0_tick_8 (by decide) (fun c_1 => ?_) (fun c_1 => ?_)
  · refine lv_aload_n cx.1 cx.2.1 dX0_tick_21 rfl (lv_at hl 0 rfl) ?_
    refine xg_6 cx hI dX0_tick_22 ?_
    refine lv_iconst (v := 1) cx.1 cx.2.1 dX0_tick_25 (by decide) ?_
    refine lv_icmp_eq (tgt := 39) cx.1 cx.2.1 dX0_tick_26 (by decide) (fun c_2 => ?_) (fun c_2 => ?_)
    · refine lv_iload_n cx.1 cx.2.1 dX0_tick_39 rfl (lv_at hl 1 rfl) ?_
      refine lv_aload_n cx.1 cx.2.1 dX0_tick_40 rfl (lv_at hl 0 rfl) ?_
      refine xg_11 cx hI dX0_tick_41 ?_
      refine lv_icmp_le (tgt := 49) cx.1 cx.2.1 dX0_tick_44 (by decide) (fun c_3 => ?_) (fun c_3 => ?_)
      · refine lv_aload_n cx.1 cx.2.1 dX0_tick_49 rfl (lv_at hl 0 rfl) ?_
        refine xg_7 cx hI dX0_tick_50 ?_
        refine lv_bipush (v := 40) cx.1 cx.2.1 dX0_tick_53 (by decide) ?_
        refine lv_icmp_ge (tgt := 63) cx.1 cx.2.1 dX0_tick_55 (by decide) (fun c_4 => ?_) (fun c_4 => ?_)
        · refine lv_aload_n cx.1 cx.2.1 dX0_tick_63 rfl (lv_at hl 0 rfl) ?_
          refine lv_aload_n cx.1 cx.2.1 dX0_tick_64 rfl (lv_at hl 0 rfl) ?_
          refine xg_10 cx hI dX0_tick_65 ?_
          refine lv_aload_n cx.1 cx.2.1 dX0_tick_68 rfl (lv_at hl 0 rfl) ?_
          refine xg_5 cx hI dX0_tick_69 ?_
          refine k_mmin cx (hml.trans hl.1.symm) (cx.2.2.2.1 _ wk_312) (Nat.le_of_ble_eq_true rfl) (Nat.le_of_ble_eq_true rfl) (Nat.zero_le _) (Nat.zero_le _) dX0_tick_72 ?_
          refine k_top (y := kMin (xk v) (xc v)) rfl ?_
          refine xc_i 1 cx (hl.1.trans hml.symm) (kX0_playNotes l D ca ad v (kMin (xk v) (xc v)) cn nn hc hn hcn hn2 hN) hI wk_339 wk_336 wk_338 wq_18 ⟨rfl, by decide +kernel⟩ rfl ⟨rfl, rfl⟩ ⟨Nat.le_of_ble_eq_true rfl, Nat.le_of_ble_eq_true rfl⟩ (Nat.le_of_ble_eq_true rfl) dX0_tick_75 ⟨Nat.zero_le _, Nat.zero_le _⟩ rfl (fun H locs hI => ?_)
          exact ke_x (by simp [hc, xfTick, c_1, c_2, c_3, c_4]) (ke_i cx hr hlk hI (Nat.zero_le _) (Nat.zero_le _) dX0_tick_78 (congrArg (fun z => some (Value.int z)) (by simp [hc, xfTick, c_1, c_2, c_3, c_4])) (congrArg (xw ad ca) (by simp [hc, xfTick, c_1, c_2, c_3, c_4])))
        · refine lv_aload_n cx.1 cx.2.1 dX0_tick_58 rfl (lv_at hl 0 rfl) ?_
          refine xc_i 0 cx (hl.1.trans hml.symm) (kX0_copyChunk l D ca ad v mk n hm (he c_4) (hle c_4)) hI wk_335 wk_332 wk_334 wq_17 ⟨rfl, by decide +kernel⟩ rfl ⟨rfl, rfl⟩ ⟨Nat.le_of_ble_eq_true rfl, Nat.le_of_ble_eq_true rfl⟩ (Nat.le_of_ble_eq_true rfl) dX0_tick_59 ⟨Nat.zero_le _, Nat.zero_le _⟩ rfl (fun H locs hI => ?_)
          exact ke_x (by simp [hc, xfTick, c_1, c_2, c_3, c_4]) (ke_i cx hr hlk hI (Nat.zero_le _) (Nat.zero_le _) dX0_tick_62 (congrArg (fun z => some (Value.int z)) (by simp [hc, xfTick, c_1, c_2, c_3, c_4])) (congrArg (xw ad ca) (by simp [hc, xfTick, c_1, c_2, c_3, c_4])))
      · refine lv_iconst (v := 0) cx.1 cx.2.1 dX0_tick_47 (by decide) ?_
        exact ke_x (by simp [hc, xfTick, c_1, c_2, c_3]) (ke_i cx hr hlk hI (Nat.zero_le _) (Nat.zero_le _) dX0_tick_48 (congrArg (fun z => some (Value.int z)) (by simp [hc, xfTick, c_1, c_2, c_3])) (congrArg (xw ad ca) (by simp [hc, xfTick, c_1, c_2, c_3])))
    · exact kt_ise cx hlS hlk htab hE hI (hl.1.trans hml.symm) (show (128, "the phase is not COPYING") ∈ kstrs by decide) dX0_tick_29 dX0_tick_32 dX0_tick_33 dX0_tick_35 dX0_tick_38 ⟨Nat.le_of_ble_eq_true rfl, Nat.le_of_ble_eq_true rfl⟩ ⟨Nat.le_of_ble_eq_true rfl, Nat.le_of_ble_eq_true rfl⟩ (Or.inr (⟨(by simp [hc, xfTick, c_1, c_2]), rfl⟩))
  · exact kt_iae cx hlS hlk htab hE hI (hl.1.trans hml.symm) (show (126, "lag is out of range") ∈ kstrs by decide) dX0_tick_11 dX0_tick_14 dX0_tick_15 dX0_tick_17 dX0_tick_20 ⟨Nat.le_of_ble_eq_true rfl, Nat.le_of_ble_eq_true rfl⟩ ⟨Nat.le_of_ble_eq_true rfl, Nat.le_of_ble_eq_true rfl⟩ (Or.inl (⟨(by simp [hc, xfTick, c_1]), rfl⟩))
set_option maxHeartbeats 4000000 in
set_option maxRecDepth 100000 in
theorem kX0_cutOver (l : Launch) (D : va_G) (ca : Nat → ClassId) (ad : Nat → Nat) (v : XS) (most : Int32) (nn : Nat) (hn : xc v = nI nn) (hn2 : nn ≤ 1024) (hN : ∀ j, j < nn → vp_in (xN v (nI j).toNatClampNeg) 40) (hlS : l.stackTraces = false) : CX l yX0_cutOver cX0_cutOver 3 (some .int) (KR1 6 130) D ca (xw ad ca v) [.ref (ad 0), .int most] (xfCut v most = 0) (some (.int (xc v))) (xw ad ca (xUp (xPlay v nn) 2)) (fun E => (xfCut v most = 1 ∧ E = "java/lang/IllegalArgumentException") ∨ (xfCut v most = 2 ∧ E = "java/lang/IllegalStateException")) := by
  refine CX.of (by decide) (Nat.le_of_ble_eq_true rfl) ?_
  intro p e s m below meth c A ls cx hml hr hlk htab hE hI hl
  have hl : lv_has ls 3 [(0, .ref (ad 0)), (1, .int most)] := hl
  refine lv_iload_n cx.1 cx.2.1 dX0_cutOver_0 rfl (lv_at hl 1 rfl) ?_
  refine lv_iconst (v := 0) cx.1 cx.2.1 dX0_cutOver_1 (by decide) ?_
  refine lv_sipush (v := 1000) cx.1 cx.2.1 dX0_cutOver_2 (by decide) ?_
  refine ks_i 3 cx (hl.1.trans hml.symm) (kX0_isWithin l D ca most 0 1000) hI wk_92 wk_90 wk_91 wk_1 ⟨by decide, by decide, by decide +kernel⟩ rfl ⟨rfl, rfl⟩ ⟨Nat.le_of_ble_eq_true rfl, Nat.le_of_ble_eq_true rfl⟩ (Nat.le_of_ble_eq_true rfl) dX0_cutOver_5 ⟨Nat.zero_le _, Nat.zero_le _⟩ rfl (fun H locs hI => ?_)
  refine kb_ne (tgt := 21) cx dX0_cutOver_8 (by decide) (fun c_1 => ?_) (fun c_1 => ?_)
  · refine lv_aload_n cx.1 cx.2.1 dX0_cutOver_21 rfl (lv_at hl 0 rfl) ?_
    refine xg_6 cx hI dX0_cutOver_22 ?_
    refine lv_iconst (v := 1) cx.1 cx.2.1 dX0_cutOver_25 (by decide) ?_
    refine lv_icmp_ne (tgt := 46) cx.1 cx.2.1 dX0_cutOver_26 (by decide) (fun c_2 => ?_) (fun c_2 => ?_)
    · exact kt_ise cx hlS hlk htab hE hI (hl.1.trans hml.symm) (show (142, "not COPYING, the mark is not 40, or more notes") ∈ kstrs by decide) dX0_cutOver_46 dX0_cutOver_49 dX0_cutOver_50 dX0_cutOver_52 dX0_cutOver_55 ⟨Nat.le_of_ble_eq_true rfl, Nat.le_of_ble_eq_true rfl⟩ ⟨Nat.le_of_ble_eq_true rfl, Nat.le_of_ble_eq_true rfl⟩ (Or.inr (⟨(by simp [hn.symm, xfCut, c_1, c_2]), rfl⟩))
    · refine lv_aload_n cx.1 cx.2.1 dX0_cutOver_29 rfl (lv_at hl 0 rfl) ?_
      refine xg_7 cx hI dX0_cutOver_30 ?_
      refine lv_bipush (v := 40) cx.1 cx.2.1 dX0_cutOver_33 (by decide) ?_
      refine lv_icmp_lt (tgt := 46) cx.1 cx.2.1 dX0_cutOver_35 (by decide) (fun c_3 => ?_) (fun c_3 => ?_)
      · exact kt_ise cx hlS hlk htab hE hI (hl.1.trans hml.symm) (show (142, "not COPYING, the mark is not 40, or more notes") ∈ kstrs by decide) dX0_cutOver_46 dX0_cutOver_49 dX0_cutOver_50 dX0_cutOver_52 dX0_cutOver_55 ⟨Nat.le_of_ble_eq_true rfl, Nat.le_of_ble_eq_true rfl⟩ ⟨Nat.le_of_ble_eq_true rfl, Nat.le_of_ble_eq_true rfl⟩ (Or.inr (⟨(by simp [hn.symm, xfCut, c_1, c_2, c_3]), rfl⟩))
      · refine lv_aload_n cx.1 cx.2.1 dX0_cutOver_38 rfl (lv_at hl 0 rfl) ?_
        refine xg_5 cx hI dX0_cutOver_39 ?_
        refine lv_iload_n cx.1 cx.2.1 dX0_cutOver_42 rfl (lv_at hl 1 rfl) ?_
        refine lv_icmp_le (tgt := 56) cx.1 cx.2.1 dX0_cutOver_43 (by decide) (fun c_4 => ?_) (fun c_4 => ?_)
        · refine lv_aload_n cx.1 cx.2.1 dX0_cutOver_56 rfl (lv_at hl 0 rfl) ?_
          refine lv_aload_n cx.1 cx.2.1 dX0_cutOver_57 rfl (lv_at hl 0 rfl) ?_
          refine xg_5 cx hI dX0_cutOver_58 ?_
          refine xc_i 1 cx (hl.1.trans hml.symm) (kX0_playNotes l D ca ad v (xc v) nn nn hn hn (Nat.le_refl _) hn2 hN) hI wk_339 wk_336 wk_338 wq_18 ⟨rfl, by decide +kernel⟩ rfl ⟨rfl, rfl⟩ ⟨Nat.le_of_ble_eq_true rfl, Nat.le_of_ble_eq_true rfl⟩ (Nat.le_of_ble_eq_true rfl) dX0_cutOver_61 ⟨Nat.zero_le _, Nat.zero_le _⟩ rfl (fun H locs hI => ?_)
          refine lv_istore_n (lv' := [(2, .int (nI nn)), (0, .ref (ad 0)), (1, .int most)]) cx.1 cx.2.1 dX0_cutOver_64 rfl hl (by decide) rfl (fun ls hl => ?_)
          refine lv_aload_n cx.1 cx.2.1 dX0_cutOver_65 rfl (lv_at hl 1 rfl) ?_
          refine lv_iconst (v := 2) cx.1 cx.2.1 dX0_cutOver_66 (by decide) ?_
          refine xp_6 cx hI dX0_cutOver_67 (fun H locs hI => ?_)
          refine lv_iload_n cx.1 cx.2.1 dX0_cutOver_70 rfl (lv_at hl 0 rfl) ?_
          exact ke_x (by simp [hn.symm, xfCut, c_1, c_2, c_3, c_4]) (ke_i cx hr hlk hI (Nat.zero_le _) (Nat.zero_le _) dX0_cutOver_71 (congrArg (fun z => some (Value.int z)) (by simp [hn.symm, xfCut, c_1, c_2, c_3, c_4])) rfl)
        · exact kt_ise cx hlS hlk htab hE hI (hl.1.trans hml.symm) (show (142, "not COPYING, the mark is not 40, or more notes") ∈ kstrs by decide) dX0_cutOver_46 dX0_cutOver_49 dX0_cutOver_50 dX0_cutOver_52 dX0_cutOver_55 ⟨Nat.le_of_ble_eq_true rfl, Nat.le_of_ble_eq_true rfl⟩ ⟨Nat.le_of_ble_eq_true rfl, Nat.le_of_ble_eq_true rfl⟩ (Or.inr (⟨(by simp [hn.symm, xfCut, c_1, c_2, c_3, c_4]), rfl⟩))
  · exact kt_iae cx hlS hlk htab hE hI (hl.1.trans hml.symm) (show (140, "most is out of range") ∈ kstrs by decide) dX0_cutOver_11 dX0_cutOver_14 dX0_cutOver_15 dX0_cutOver_17 dX0_cutOver_20 ⟨Nat.le_of_ble_eq_true rfl, Nat.le_of_ble_eq_true rfl⟩ ⟨Nat.le_of_ble_eq_true rfl, Nat.le_of_ble_eq_true rfl⟩ (Or.inl (⟨(by simp [hn.symm, xfCut, c_1]), rfl⟩))
set_option maxHeartbeats 4000000 in
set_option maxRecDepth 100000 in
theorem kX0_undo (l : Launch) (D : va_G) (ca : Nat → ClassId) (ad : Nat → Nat) (v : XS) (hlS : l.stackTraces = false) : CX l yX0_undo cX0_undo 1 none (KR1 6 82) D ca (xw ad ca v) [.ref (ad 0)] (xfUndo v = 0) none (xw ad ca (xUp v 1)) (fun E => (xfUndo v = 1 ∧ E = "java/lang/IllegalStateException")) := by
  refine CX.of (by decide) (Nat.le_of_ble_eq_true rfl) ?_
  intro p e s m below meth c A ls cx hml hr hlk htab hE hI hl
  have hl : lv_has ls 1 [(0, .ref (ad 0))] := hl
  refine lv_aload_n cx.1 cx.2.1 dX0_undo_0 rfl (lv_at hl 0 rfl) ?_
  refine xg_6 cx hI dX0_undo_1 ?_
  refine lv_iconst (v := 2) cx.1 cx.2.1 dX0_undo_4 (by decide) ?_
  refine lv_icmp_eq (tgt := 18) cx.1 cx.2.1 dX0_undo_5 (by decide) (fun c_1 => ?_) (fun c_1 => ?_)
  · refine lv_aload_n cx.1 cx.2.1 dX0_undo_18 rfl (lv_at hl 0 rfl) ?_
    refine lv_iconst (v := 1) cx.1 cx.2.1 dX0_undo_19 (by decide) ?_
    refine xp_6 cx hI dX0_undo_20 (fun H locs hI => ?_)
    exact ke_x (by simp [xfUndo, c_1]) (ke_v cx hr hlk hI (Nat.zero_le _) (Nat.zero_le _) dX0_undo_23 rfl rfl)
  · exact kt_ise cx hlS hlk htab hE hI (hl.1.trans hml.symm) (show (144, "the phase is not CUT") ∈ kstrs by decide) dX0_undo_8 dX0_undo_11 dX0_undo_12 dX0_undo_14 dX0_undo_17 ⟨Nat.le_of_ble_eq_true rfl, Nat.le_of_ble_eq_true rfl⟩ ⟨Nat.le_of_ble_eq_true rfl, Nat.le_of_ble_eq_true rfl⟩ (⟨(by simp [xfUndo, c_1]), rfl⟩)
set_option maxHeartbeats 4000000 in
set_option maxRecDepth 100000 in
theorem kX0_finish (l : Launch) (D : va_G) (ca : Nat → ClassId) (ad : Nat → Nat) (v : XS) (hlS : l.stackTraces = false) : CX l yX0_finish cX0_finish 2 (some .int) (KR1 6 82) D ca (xw ad ca v) [.ref (ad 0)] (xfUndo v = 0) (some (.int (xRemN v 40))) (xw ad ca (xEnd (xRem v 40))) (fun E => (xfUndo v = 1 ∧ E = "java/lang/IllegalStateException")) := by
  refine CX.of (by decide) (Nat.le_of_ble_eq_true rfl) ?_
  intro p e s m below meth c A ls cx hml hr hlk htab hE hI hl
  have hl : lv_has ls 2 [(0, .ref (ad 0))] := hl
  refine lv_aload_n cx.1 cx.2.1 dX0_finish_0 rfl (lv_at hl 0 rfl) ?_
  refine xg_6 cx hI dX0_finish_1 ?_
  refine lv_iconst (v := 2) cx.1 cx.2.1 dX0_finish_4 (by decide) ?_
  refine lv_icmp_eq (tgt := 18) cx.1 cx.2.1 dX0_finish_5 (by decide) (fun c_1 => ?_) (fun c_1 => ?_)
  · refine lv_aload_n cx.1 cx.2.1 dX0_finish_18 rfl (lv_at hl 0 rfl) ?_
    refine xc_i 0 cx (hl.1.trans hml.symm) (kX0_removeRowsWithoutShadow l D ca ad v) hI wk_357 wk_354 wk_356 wq_19 ⟨rfl, by decide +kernel⟩ rfl ⟨rfl, rfl⟩ ⟨Nat.le_of_ble_eq_true rfl, Nat.le_of_ble_eq_true rfl⟩ (Nat.le_of_ble_eq_true rfl) dX0_finish_19 ⟨Nat.zero_le _, Nat.zero_le _⟩ rfl (fun H locs hI => ?_)
    refine lv_istore_n (lv' := [(1, .int (xRemN v 40)), (0, .ref (ad 0))]) cx.1 cx.2.1 dX0_finish_22 rfl hl (by decide) rfl (fun ls hl => ?_)
    refine lv_aload_n cx.1 cx.2.1 dX0_finish_23 rfl (lv_at hl 1 rfl) ?_
    refine xc_v 0 cx (hl.1.trans hml.symm) (kX0_endChange l D ca ad (xRem v 40)) hI wk_361 wk_358 wk_360 wq_20 ⟨rfl, by decide +kernel⟩ rfl ⟨rfl, rfl⟩ ⟨Nat.le_of_ble_eq_true rfl, Nat.le_of_ble_eq_true rfl⟩ (Nat.le_of_ble_eq_true rfl) dX0_finish_24 ⟨Nat.zero_le _, Nat.zero_le _⟩ rfl (fun H locs hI => ?_)
    refine lv_iload_n cx.1 cx.2.1 dX0_finish_27 rfl (lv_at hl 0 rfl) ?_
    exact ke_x (by simp [xfUndo, c_1]) (ke_i cx hr hlk hI (Nat.zero_le _) (Nat.zero_le _) dX0_finish_28 rfl rfl)
  · exact kt_ise cx hlS hlk htab hE hI (hl.1.trans hml.symm) (show (144, "the phase is not CUT") ∈ kstrs by decide) dX0_finish_8 dX0_finish_11 dX0_finish_12 dX0_finish_14 dX0_finish_17 ⟨Nat.le_of_ble_eq_true rfl, Nat.le_of_ble_eq_true rfl⟩ ⟨Nat.le_of_ble_eq_true rfl, Nat.le_of_ble_eq_true rfl⟩ (⟨(by simp [xfUndo, c_1]), rfl⟩)
set_option maxHeartbeats 4000000 in
set_option maxRecDepth 100000 in
theorem kX0_giveUp (l : Launch) (D : va_G) (ca : Nat → ClassId) (ad : Nat → Nat) (v : XS) (hlS : l.stackTraces = false) : CX l yX0_giveUp cX0_giveUp 2 (some .int) (KR1 6 82) D ca (xw ad ca v) [.ref (ad 0)] (xfGive v = 0) (some (.int (xShRows v 40))) (xw ad ca (xEnd v)) (fun E => (xfGive v = 1 ∧ E = "java/lang/IllegalStateException")) := by
  refine CX.of (by decide) (Nat.le_of_ble_eq_true rfl) ?_
  intro p e s m below meth c A ls cx hml hr hlk htab hE hI hl
  have hl : lv_has ls 2 [(0, .ref (ad 0))] := hl
  refine lv_aload_n cx.1 cx.2.1 dX0_giveUp_0 rfl (lv_at hl 0 rfl) ?_
  refine xg_6 cx hI dX0_giveUp_1 ?_
  refine lv_iconst (v := 1) cx.1 cx.2.1 dX0_giveUp_4 (by decide) ?_
  refine lv_icmp_eq (tgt := 18) cx.1 cx.2.1 dX0_giveUp_5 (by decide) (fun c_1 => ?_) (fun c_1 => ?_)
  · refine lv_aload_n cx.1 cx.2.1 dX0_giveUp_18 rfl (lv_at hl 0 rfl) ?_
    refine xc_i 0 cx (hl.1.trans hml.symm) (kX0_shadowRows l D ca ad v) hI wk_171 wk_366 wk_169 wk_170 ⟨rfl, by decide +kernel⟩ rfl ⟨rfl, rfl⟩ ⟨Nat.le_of_ble_eq_true rfl, Nat.le_of_ble_eq_true rfl⟩ (Nat.le_of_ble_eq_true rfl) dX0_giveUp_19 ⟨Nat.zero_le _, Nat.zero_le _⟩ rfl (fun H locs hI => ?_)
    refine lv_istore_n (lv' := [(1, .int (xShRows v 40)), (0, .ref (ad 0))]) cx.1 cx.2.1 dX0_giveUp_22 rfl hl (by decide) rfl (fun ls hl => ?_)
    refine lv_aload_n cx.1 cx.2.1 dX0_giveUp_23 rfl (lv_at hl 1 rfl) ?_
    refine xc_v 0 cx (hl.1.trans hml.symm) (kX0_endChange l D ca ad v) hI wk_361 wk_358 wk_360 wq_20 ⟨rfl, by decide +kernel⟩ rfl ⟨rfl, rfl⟩ ⟨Nat.le_of_ble_eq_true rfl, Nat.le_of_ble_eq_true rfl⟩ (Nat.le_of_ble_eq_true rfl) dX0_giveUp_24 ⟨Nat.zero_le _, Nat.zero_le _⟩ rfl (fun H locs hI => ?_)
    refine lv_iload_n cx.1 cx.2.1 dX0_giveUp_27 rfl (lv_at hl 0 rfl) ?_
    exact ke_x (by simp [xfGive, c_1]) (ke_i cx hr hlk hI (Nat.zero_le _) (Nat.zero_le _) dX0_giveUp_28 rfl rfl)
  · exact kt_ise cx hlS hlk htab hE hI (hl.1.trans hml.symm) (show (128, "the phase is not COPYING") ∈ kstrs by decide) dX0_giveUp_8 dX0_giveUp_11 dX0_giveUp_12 dX0_giveUp_14 dX0_giveUp_17 ⟨Nat.le_of_ble_eq_true rfl, Nat.le_of_ble_eq_true rfl⟩ ⟨Nat.le_of_ble_eq_true rfl, Nat.le_of_ble_eq_true rfl⟩ (⟨(by simp [xfGive, c_1]), rfl⟩)
set_option maxHeartbeats 4000000 in
set_option maxRecDepth 100000 in
theorem kX0_row (l : Launch) (D : va_G) (ca : Nat → ClassId) (ad : Nat → Nat) (v : XS) (key : Int32) (hlS : l.stackTraces = false) : CX l yX0_row cX0_row 2 (some .int) (KR1 6 82) D ca (xw ad ca v) [.ref (ad 0), .int key] (xfKey key = 0) (some (.int (if xSeen v key then xRow v key else -1))) (xw ad ca v) (fun E => (xfKey key = 1 ∧ E = "java/lang/IndexOutOfBoundsException")) := by
  refine CX.of (by decide) (Nat.le_of_ble_eq_true rfl) ?_
  intro p e s m below meth c A ls cx hml hr hlk htab hE hI hl
  have hl : lv_has ls 2 [(0, .ref (ad 0)), (1, .int key)] := hl
  refine lv_iload_n cx.1 cx.2.1 dX0_row_0 rfl (lv_at hl 1 rfl) ?_
  refine ks_i 1 cx (hl.1.trans hml.symm) (kX0_isKey l D ca key) hI wk_89 wk_87 wk_88 wk_1 ⟨by decide, by decide, by decide +kernel⟩ rfl ⟨rfl, rfl⟩ ⟨Nat.le_of_ble_eq_true rfl, Nat.le_of_ble_eq_true rfl⟩ (Nat.le_of_ble_eq_true rfl) dX0_row_1 ⟨Nat.zero_le _, Nat.zero_le _⟩ rfl (fun H locs hI => ?_)
  refine kb_ne (tgt := 17) cx dX0_row_4 (by decide) (fun c_1 => ?_) (fun c_1 => ?_)
  · have hk : vp_in key 40 := xKey_in c_1
    refine lv_aload_n cx.1 cx.2.1 dX0_row_17 rfl (lv_at hl 0 rfl) ?_
    refine lv_iload_n cx.1 cx.2.1 dX0_row_18 rfl (lv_at hl 1 rfl) ?_
    refine xc_i 1 cx (hl.1.trans hml.symm) (kX0_isSeen l D ca ad v key hk) hI wk_248 wk_245 wk_247 wq_10 ⟨rfl, by decide +kernel⟩ rfl ⟨rfl, rfl⟩ ⟨Nat.le_of_ble_eq_true rfl, Nat.le_of_ble_eq_true rfl⟩ (Nat.le_of_ble_eq_true rfl) dX0_row_19 ⟨Nat.zero_le _, Nat.zero_le _⟩ rfl (fun H locs hI => ?_)
    refine kb_eq (tgt := 33) cx dX0_row_22 (by decide) (fun c_2 => ?_) (fun c_2 => ?_)
    · refine lv_iconst (v := (-1)) cx.1 cx.2.1 dX0_row_33 (by decide) ?_
      exact ke_x (by simp [xfKey, c_1, c_2]) (ke_i cx hr hlk hI (Nat.zero_le _) (Nat.zero_le _) dX0_row_34 (congrArg (fun z => some (Value.int z)) (by simp [xfKey, c_1, c_2])) rfl)
    · refine lv_aload_n cx.1 cx.2.1 dX0_row_25 rfl (lv_at hl 0 rfl) ?_
      refine lv_iload_n cx.1 cx.2.1 dX0_row_26 rfl (lv_at hl 1 rfl) ?_
      refine xc_i 1 cx (hl.1.trans hml.symm) (kX0_rowAsNumber l D ca ad v key hk) hI wk_325 wk_322 wk_324 wq_16 ⟨rfl, by decide +kernel⟩ rfl ⟨rfl, rfl⟩ ⟨Nat.le_of_ble_eq_true rfl, Nat.le_of_ble_eq_true rfl⟩ (Nat.le_of_ble_eq_true rfl) dX0_row_27 ⟨Nat.zero_le _, Nat.zero_le _⟩ rfl (fun H locs hI => ?_)
      refine lv_goto (tgt := 34) cx.1 cx.2.1 dX0_row_30 (by decide) ?_
      exact ke_x (by simp [xfKey, c_1, c_2]) (ke_i cx hr hlk hI (Nat.zero_le _) (Nat.zero_le _) dX0_row_34 (congrArg (fun z => some (Value.int z)) (by simp [xfKey, c_1, c_2])) rfl)
  · exact kt_iob cx hlS hlk htab hE hI (hl.1.trans hml.symm) (show (50, "there is no such key") ∈ kstrs by decide) dX0_row_7 dX0_row_10 dX0_row_11 dX0_row_13 dX0_row_16 ⟨Nat.le_of_ble_eq_true rfl, Nat.le_of_ble_eq_true rfl⟩ ⟨Nat.le_of_ble_eq_true rfl, Nat.le_of_ble_eq_true rfl⟩ (⟨(by simp [xfKey, c_1]), rfl⟩)
set_option maxHeartbeats 4000000 in
set_option maxRecDepth 100000 in
theorem kX0_shadow (l : Launch) (D : va_G) (ca : Nat → ClassId) (ad : Nat → Nat) (v : XS) (key col : Int32) (hlS : l.stackTraces = false) : CX l yX0_shadow cX0_shadow 3 (some .int) (KR1 6 82) D ca (xw ad ca v) [.ref (ad 0), .int key, .int col] (xfShadow key col = 0) (some (.int (xC v col.toNatClampNeg key.toNatClampNeg))) (xw ad ca v) (fun E => (xfShadow key col = 1 ∧ E = "java/lang/IndexOutOfBoundsException")) := by
  refine CX.of (by decide) (Nat.le_of_ble_eq_true rfl) ?_
  intro p e s m below meth c A ls cx hml hr hlk htab hE hI hl
  have hl : lv_has ls 3 [(0, .ref (ad 0)), (1, .int key), (2, .int col)] := hl
  refine lv_iload_n cx.1 cx.2.1 dX0_shadow_0 rfl (lv_at hl 1 rfl) ?_
  refine ks_i 1 cx (hl.1.trans hml.symm) (kX0_isKey l D ca key) hI wk_89 wk_87 wk_88 wk_1 ⟨by decide, by decide, by decide +kernel⟩ rfl ⟨rfl, rfl⟩ ⟨Nat.le_of_ble_eq_true rfl, Nat.le_of_ble_eq_true rfl⟩ (Nat.le_of_ble_eq_true rfl) dX0_shadow_1 ⟨Nat.zero_le _, Nat.zero_le _⟩ rfl (fun H locs hI => ?_)
  refine kb_eq (tgt := 14) cx dX0_shadow_4 (by decide) (fun c_1 => ?_) (fun c_1 => ?_)
  · exact kt_iob cx hlS hlk htab hE hI (hl.1.trans hml.symm) (show (158, "there is no such key or column") ∈ kstrs by decide) dX0_shadow_14 dX0_shadow_17 dX0_shadow_18 dX0_shadow_20 dX0_shadow_23 ⟨Nat.le_of_ble_eq_true rfl, Nat.le_of_ble_eq_true rfl⟩ ⟨Nat.le_of_ble_eq_true rfl, Nat.le_of_ble_eq_true rfl⟩ (⟨(by simp [xfShadow, c_1]), rfl⟩)
  · refine lv_iload_n cx.1 cx.2.1 dX0_shadow_7 rfl (lv_at hl 2 rfl) ?_
    refine ks_i 1 cx (hl.1.trans hml.symm) (kX0_isColumn l D ca col) hI wk_95 wk_93 wk_94 wk_1 ⟨by decide, by decide, by decide +kernel⟩ rfl ⟨rfl, rfl⟩ ⟨Nat.le_of_ble_eq_true rfl, Nat.le_of_ble_eq_true rfl⟩ (Nat.le_of_ble_eq_true rfl) dX0_shadow_8 ⟨Nat.zero_le _, Nat.zero_le _⟩ rfl (fun H locs hI => ?_)
    refine kb_ne (tgt := 24) cx dX0_shadow_11 (by decide) (fun c_2 => ?_) (fun c_2 => ?_)
    · have hk : vp_in key 40 := xKey_in c_1
      have hc : vp_in col 3 := xCol_in c_2
      refine lv_aload_n cx.1 cx.2.1 dX0_shadow_24 rfl (lv_at hl 0 rfl) ?_
      refine xg_2 cx hI dX0_shadow_25 ?_
      refine lv_iload_n cx.1 cx.2.1 dX0_shadow_28 rfl (lv_at hl 2 rfl) ?_
      refine xa_cols cx hI hc dX0_shadow_29 ?_
      refine lv_iload_n cx.1 cx.2.1 dX0_shadow_30 rfl (lv_at hl 1 rfl) ?_
      refine xa_col (j := col.toNatClampNeg) cx hI hc rfl hk dX0_shadow_31 ?_
      exact ke_x (by simp [xfShadow, c_1, c_2]) (ke_i cx hr hlk hI (Nat.zero_le _) (Nat.zero_le _) dX0_shadow_32 rfl rfl)
    · exact kt_iob cx hlS hlk htab hE hI (hl.1.trans hml.symm) (show (158, "there is no such key or column") ∈ kstrs by decide) dX0_shadow_14 dX0_shadow_17 dX0_shadow_18 dX0_shadow_20 dX0_shadow_23 ⟨Nat.le_of_ble_eq_true rfl, Nat.le_of_ble_eq_true rfl⟩ ⟨Nat.le_of_ble_eq_true rfl, Nat.le_of_ble_eq_true rfl⟩ (⟨(by simp [xfShadow, c_1, c_2]), rfl⟩)
set_option maxHeartbeats 4000000 in
set_option maxRecDepth 100000 in
theorem kX0_isRefused (l : Launch) (D : va_G) (ca : Nat → ClassId) (ad : Nat → Nat) (v : XS) (key : Int32) (hz : ∀ j : Nat, narrow .boolean (.int (xR v j)) = .int (xR v j)) (hlS : l.stackTraces = false) : CX l yX0_isRefused cX0_isRefused 2 (some .boolean) (KR1 6 82) D ca (xw ad ca v) [.ref (ad 0), .int key] (xfKey key = 0) (some (.int (xR v key.toNatClampNeg))) (xw ad ca v) (fun E => (xfKey key = 1 ∧ E = "java/lang/IndexOutOfBoundsException")) := by
  refine CX.of (by decide) (Nat.le_of_ble_eq_true rfl) ?_
  intro p e s m below meth c A ls cx hml hr hlk htab hE hI hl
  have hl : lv_has ls 2 [(0, .ref (ad 0)), (1, .int key)] := hl
  refine lv_iload_n cx.1 cx.2.1 dX0_isRefused_0 rfl (lv_at hl 1 rfl) ?_
  refine ks_i 1 cx (hl.1.trans hml.symm) (kX0_isKey l D ca key) hI wk_89 wk_87 wk_88 wk_1 ⟨by decide, by decide, by decide +kernel⟩ rfl ⟨rfl, rfl⟩ ⟨Nat.le_of_ble_eq_true rfl, Nat.le_of_ble_eq_true rfl⟩ (Nat.le_of_ble_eq_true rfl) dX0_isRefused_1 ⟨Nat.zero_le _, Nat.zero_le _⟩ rfl (fun H locs hI => ?_)
  refine kb_ne (tgt := 17) cx dX0_isRefused_4 (by decide) (fun c_1 => ?_) (fun c_1 => ?_)
  · have hk : vp_in key 40 := xKey_in c_1
    refine lv_aload_n cx.1 cx.2.1 dX0_isRefused_17 rfl (lv_at hl 0 rfl) ?_
    refine xg_3 cx hI dX0_isRefused_18 ?_
    refine lv_iload_n cx.1 cx.2.1 dX0_isRefused_21 rfl (lv_at hl 1 rfl) ?_
    refine xa_R cx hI hk dX0_isRefused_22 ?_
    exact ke_x (by simp [xfKey, c_1]) (ke_z cx hr hlk hI (Nat.zero_le _) (Nat.zero_le _) dX0_isRefused_23 (hz _) rfl rfl)
  · exact kt_iob cx hlS hlk htab hE hI (hl.1.trans hml.symm) (show (50, "there is no such key") ∈ kstrs by decide) dX0_isRefused_7 dX0_isRefused_10 dX0_isRefused_11 dX0_isRefused_13 dX0_isRefused_16 ⟨Nat.le_of_ble_eq_true rfl, Nat.le_of_ble_eq_true rfl⟩ ⟨Nat.le_of_ble_eq_true rfl, Nat.le_of_ble_eq_true rfl⟩ (⟨(by simp [xfKey, c_1]), rfl⟩)
set_option maxHeartbeats 4000000 in
set_option maxRecDepth 100000 in
theorem kX0_sum (l : Launch) (D : va_G) (ca : Nat → ClassId) (ad : Nat → Nat) (v : XS) (col : Int32) (hlS : l.stackTraces = false) : CX l yX0_sum cX0_sum 4 (some .int) (KR1 6 82) D ca (xw ad ca v) [.ref (ad 0), .int col] (xfCol col = 0) (some (.int (xSum v col 40))) (xw ad ca v) (fun E => (xfCol col = 1 ∧ E = "java/lang/IndexOutOfBoundsException")) := by
  refine CX.of (by decide) (Nat.le_of_ble_eq_true rfl) ?_
  intro p e s m below meth c A ls cx hml hr hlk htab hE hI hl
  have hl : lv_has ls 4 [(0, .ref (ad 0)), (1, .int col)] := hl
  refine lv_iload_n cx.1 cx.2.1 dX0_sum_0 rfl (lv_at hl 1 rfl) ?_
  refine ks_i 1 cx (hl.1.trans hml.symm) (kX0_isColumn l D ca col) hI wk_95 wk_93 wk_94 wk_1 ⟨by decide, by decide, by decide +kernel⟩ rfl ⟨rfl, rfl⟩ ⟨Nat.le_of_ble_eq_true rfl, Nat.le_of_ble_eq_true rfl⟩ (Nat.le_of_ble_eq_true rfl) dX0_sum_1 ⟨Nat.zero_le _, Nat.zero_le _⟩ rfl (fun H locs hI => ?_)
  refine kb_ne (tgt := 17) cx dX0_sum_4 (by decide) (fun c_1 => ?_) (fun c_1 => ?_)
  · have hc : vp_in col 3 := xCol_in c_1
    refine lv_iconst (v := 0) cx.1 cx.2.1 dX0_sum_17 (by decide) ?_
    refine lv_istore_n (lv' := [(2, .int 0), (0, .ref (ad 0)), (1, .int col)]) cx.1 cx.2.1 dX0_sum_18 rfl hl (by decide) rfl (fun ls hl => ?_)
    refine lv_iconst (v := 0) cx.1 cx.2.1 dX0_sum_19 (by decide) ?_
    refine lv_istore_n (lv' := [(3, .int 0), (2, .int 0), (0, .ref (ad 0)), (1, .int col)]) cx.1 cx.2.1 dX0_sum_20 rfl hl (by decide) rfl (fun ls hl => ?_)
    refine k_loop 40 (fun i => (xw ad ca v)) (fun i => [(3, .int (nI i)), (2, .int (xSum v col i)), (0, .ref (ad 0)), (1, .int col)]) hI (lv_sub hl [0, 1, 2, 3] rfl) (fun H locs ls hI hl => ?_) (fun i hi H locs ls hI hl ih => ?_)
    · have hI : KI D A (xw ad ca v) s.heap H locs := hI
      have hl : lv_has ls 4 [(3, .int (nI 40)), (2, .int (xSum v col 40)), (0, .ref (ad 0)), (1, .int col)] := hl
      refine lv_iload_n cx.1 cx.2.1 dX0_sum_21 rfl (lv_at hl 0 rfl) ?_
      refine lv_bipush (v := 40) cx.1 cx.2.1 dX0_sum_22 (by decide) ?_
      refine lv_icmp_ge (tgt := 52) cx.1 cx.2.1 dX0_sum_24 (by decide) (fun _ => ?_) (fun h9 => absurd (by decide : (40 : Int32) ≤ nI 40) h9)
      refine lv_iload_n cx.1 cx.2.1 dX0_sum_52 rfl (lv_at hl 1 rfl) ?_
      exact ke_x (by simp [xfCol, c_1]) (ke_i cx hr hlk hI (Nat.zero_le _) (Nat.zero_le _) dX0_sum_53 rfl rfl)
    · have hI : KI D A (xw ad ca v) s.heap H locs := hI
      have hl : lv_has ls 4 [(3, .int (nI i)), (2, .int (xSum v col i)), (0, .ref (ad 0)), (1, .int col)] := hl
      refine lv_iload_n cx.1 cx.2.1 dX0_sum_21 rfl (lv_at hl 0 rfl) ?_
      refine lv_bipush (v := 40) cx.1 cx.2.1 dX0_sum_22 (by decide) ?_
      refine lv_icmp_ge (tgt := 52) cx.1 cx.2.1 dX0_sum_24 (by decide) (fun h9 => absurd h9 (nI_ge hi (by decide))) (fun _ => ?_)
      refine lv_aload_n cx.1 cx.2.1 dX0_sum_27 rfl (lv_at hl 2 rfl) ?_
      refine lv_iload_n cx.1 cx.2.1 dX0_sum_28 rfl (lv_at hl 0 rfl) ?_
      refine xc_i 1 cx (hl.1.trans hml.symm) (kX0_isInShadow l D ca ad v (nI i) (vp_in_nI hi (by decide))) hI wk_175 wk_172 wk_174 wq_1 ⟨rfl, by decide +kernel⟩ rfl ⟨rfl, rfl⟩ ⟨Nat.le_of_ble_eq_true rfl, Nat.le_of_ble_eq_true rfl⟩ (Nat.le_of_ble_eq_true rfl) dX0_sum_29 ⟨Nat.zero_le _, Nat.zero_le _⟩ rfl (fun H locs hI => ?_)
      refine kb_eq (tgt := 46) cx dX0_sum_32 (by decide) (fun c_4 => ?_) (fun c_4 => ?_)
      · refine lv_iinc (v := nI (i + 1)) (lv' := [(3, .int (nI (i + 1))), (2, .int (xSum v col i)), (0, .ref (ad 0)), (1, .int col)]) cx.1 cx.2.1 dX0_sum_46 hl (k := 0) rfl (nI_1 i) (by decide) rfl (fun ls hl => ?_)
        refine lv_goto (tgt := 21) cx.1 cx.2.1 dX0_sum_49 (by decide) ?_
        refine ih _ _ _ ?_ ?_
        · show KI D A (xw ad ca v) s.heap _ _
          exact hI
        · show lv_has _ _ [(3, .int (nI (i + 1))), (2, .int (xSum v col (i + 1))), (0, .ref (ad 0)), (1, .int col)]
          rw [show xSum v col (i + 1) = xSum v col i from (by simp [xfCol, c_4, xSum_t, xSum_f])]
          exact lv_sub hl [0, 1, 2, 3] rfl
      · refine lv_iload_n cx.1 cx.2.1 dX0_sum_35 rfl (lv_at hl 1 rfl) ?_
        refine lv_aload_n cx.1 cx.2.1 dX0_sum_36 rfl (lv_at hl 2 rfl) ?_
        refine xg_2 cx hI dX0_sum_37 ?_
        refine lv_iload_n cx.1 cx.2.1 dX0_sum_40 rfl (lv_at hl 3 rfl) ?_
        refine xa_cols cx hI hc dX0_sum_41 ?_
        refine lv_iload_n cx.1 cx.2.1 dX0_sum_42 rfl (lv_at hl 0 rfl) ?_
        refine xa_col (j := col.toNatClampNeg) cx hI hc rfl (vp_in_nI hi (by decide)) dX0_sum_43 ?_
        refine lv_iadd cx.1 cx.2.1 dX0_sum_44 ?_
        refine lv_istore_n (lv' := [(2, .int ((xSum v col i) + (xC v col.toNatClampNeg (nI i).toNatClampNeg))), (3, .int (nI i)), (0, .ref (ad 0)), (1, .int col)]) cx.1 cx.2.1 dX0_sum_45 rfl hl (by decide) rfl (fun ls hl => ?_)
        refine lv_iinc (v := nI (i + 1)) (lv' := [(3, .int (nI (i + 1))), (2, .int ((xSum v col i) + (xC v col.toNatClampNeg (nI i).toNatClampNeg))), (0, .ref (ad 0)), (1, .int col)]) cx.1 cx.2.1 dX0_sum_46 hl (k := 1) rfl (nI_1 i) (by decide) rfl (fun ls hl => ?_)
        refine lv_goto (tgt := 21) cx.1 cx.2.1 dX0_sum_49 (by decide) ?_
        refine ih _ _ _ ?_ ?_
        · show KI D A (xw ad ca v) s.heap _ _
          exact hI
        · show lv_has _ _ [(3, .int (nI (i + 1))), (2, .int (xSum v col (i + 1))), (0, .ref (ad 0)), (1, .int col)]
          rw [show xSum v col (i + 1) = (xSum v col i) + (xC v col.toNatClampNeg (nI i).toNatClampNeg) from (by simp [xfCol, c_4, xSum_t, xSum_f])]
          exact lv_sub hl [0, 1, 2, 3] rfl
  · exact kt_iob cx hlS hlk htab hE hI (hl.1.trans hml.symm) (show (166, "there is no such column") ∈ kstrs by decide) dX0_sum_7 dX0_sum_10 dX0_sum_11 dX0_sum_13 dX0_sum_16 ⟨Nat.le_of_ble_eq_true rfl, Nat.le_of_ble_eq_true rfl⟩ ⟨Nat.le_of_ble_eq_true rfl, Nat.le_of_ble_eq_true rfl⟩ (⟨(by simp [xfCol, c_1]), rfl⟩)
set_option maxHeartbeats 4000000 in
set_option maxRecDepth 100000 in
theorem kX0_sumAtOnce (l : Launch) (D : va_G) (ca : Nat → ClassId) (ad : Nat → Nat) (v : XS) (col : Int32) (hlS : l.stackTraces = false) : CX l yX0_sumAtOnce cX0_sumAtOnce 5 (some .int) (KR1 6 86) D ca (xw ad ca v) [.ref (ad 0), .int col] (xfCol col = 0) (some (.int (if xp v = 0 then 0 else xSumAt v col 40))) (xw ad ca v) (fun E => (xfCol col = 1 ∧ E = "java/lang/IndexOutOfBoundsException")) := by
  refine CX.of (by decide) (Nat.le_of_ble_eq_true rfl) ?_
  intro p e s m below meth c A ls cx hml hr hlk htab hE hI hl
  have hl : lv_has ls 5 [(0, .ref (ad 0)), (1, .int col)] := hl
  refine lv_iload_n cx.1 cx.2.1 dX0_sumAtOnce_0 rfl (lv_at hl 1 rfl) ?_
  refine ks_i 1 cx (hl.1.trans hml.symm) (kX0_isColumn l D ca col) hI wk_95 wk_93 wk_94 wk_1 ⟨by decide, by decide, by decide +kernel⟩ rfl ⟨rfl, rfl⟩ ⟨Nat.le_of_ble_eq_true rfl, Nat.le_of_ble_eq_true rfl⟩ (Nat.le_of_ble_eq_true rfl) dX0_sumAtOnce_1 ⟨Nat.zero_le _, Nat.zero_le _⟩ rfl (fun H locs hI => ?_)
  refine kb_ne (tgt := 17) cx dX0_sumAtOnce_4 (by decide) (fun c_1 => ?_) (fun c_1 => ?_)
  · refine lv_aload_n cx.1 cx.2.1 dX0_sumAtOnce_17 rfl (lv_at hl 0 rfl) ?_
    refine xg_6 cx hI dX0_sumAtOnce_18 ?_
    refine lv_if_ne (tgt := 26) cx.1 cx.2.1 dX0_sumAtOnce_21 (by decide) (fun c_2 => ?_) (fun c_2 => ?_)
    · refine lv_iconst (v := 0) cx.1 cx.2.1 dX0_sumAtOnce_26 (by decide) ?_
      refine lv_istore_n (lv' := [(2, .int 0), (0, .ref (ad 0)), (1, .int col)]) cx.1 cx.2.1 dX0_sumAtOnce_27 rfl hl (by decide) rfl (fun ls hl => ?_)
      refine lv_iconst (v := 0) cx.1 cx.2.1 dX0_sumAtOnce_28 (by decide) ?_
      refine lv_istore_n (lv' := [(3, .int 0), (2, .int 0), (0, .ref (ad 0)), (1, .int col)]) cx.1 cx.2.1 dX0_sumAtOnce_29 rfl hl (by decide) rfl (fun ls hl => ?_)
      refine k_loop 40 (fun i => (xw ad ca v)) (fun i => [(3, .int (nI i)), (2, .int (xSumAt v col i)), (0, .ref (ad 0)), (1, .int col)]) hI (lv_sub hl [0, 1, 2, 3] rfl) (fun H locs ls hI hl => ?_) (fun i hi H locs ls hI hl ih => ?_)
      · have hI : KI D A (xw ad ca v) s.heap H locs := hI
        have hl : lv_has ls 5 [(3, .int (nI 40)), (2, .int (xSumAt v col 40)), (0, .ref (ad 0)), (1, .int col)] := hl
        refine lv_iload_n cx.1 cx.2.1 dX0_sumAtOnce_30 rfl (lv_at hl 0 rfl) ?_
        refine lv_bipush (v := 40) cx.1 cx.2.1 dX0_sumAtOnce_31 (by decide) ?_
        refine lv_icmp_ge (tgt := 61) cx.1 cx.2.1 dX0_sumAtOnce_33 (by decide) (fun _ => ?_) (fun h9 => absurd (by decide : (40 : Int32) ≤ nI 40) h9)
        refine lv_iload_n cx.1 cx.2.1 dX0_sumAtOnce_61 rfl (lv_at hl 1 rfl) ?_
        exact ke_x (by simp [xfCol, c_1, c_2]) (ke_i cx hr hlk hI (Nat.zero_le _) (Nat.zero_le _) dX0_sumAtOnce_62 (congrArg (fun z => some (Value.int z)) (by simp [xfCol, c_1, c_2])) rfl)
      · have hI : KI D A (xw ad ca v) s.heap H locs := hI
        have hl : lv_has ls 5 [(3, .int (nI i)), (2, .int (xSumAt v col i)), (0, .ref (ad 0)), (1, .int col)] := hl
        refine lv_iload_n cx.1 cx.2.1 dX0_sumAtOnce_30 rfl (lv_at hl 0 rfl) ?_
        refine lv_bipush (v := 40) cx.1 cx.2.1 dX0_sumAtOnce_31 (by decide) ?_
        refine lv_icmp_ge (tgt := 61) cx.1 cx.2.1 dX0_sumAtOnce_33 (by decide) (fun h9 => absurd h9 (nI_ge hi (by decide))) (fun _ => ?_)
        refine lv_aload_n cx.1 cx.2.1 dX0_sumAtOnce_36 rfl (lv_at hl 2 rfl) ?_
        refine lv_iload_n cx.1 cx.2.1 dX0_sumAtOnce_37 rfl (lv_at hl 0 rfl) ?_
        refine lv_iload_n cx.1 cx.2.1 dX0_sumAtOnce_38 rfl (lv_at hl 3 rfl) ?_
        refine xc_i 2 cx (hl.1.trans hml.symm) (kX0_broughtColumn l D ca ad v (nI i) col (vp_in_nI hi (by decide))) hI wk_187 wk_184 wk_186 wq_3 ⟨rfl, by decide +kernel⟩ rfl ⟨rfl, rfl⟩ ⟨Nat.le_of_ble_eq_true rfl, Nat.le_of_ble_eq_true rfl⟩ (Nat.le_of_ble_eq_true rfl) dX0_sumAtOnce_39 ⟨Nat.zero_le _, Nat.zero_le _⟩ rfl (fun H locs hI => ?_)
        refine lv_istore (lv' := [(4, .int (xBro v (nI i) col)), (3, .int (nI i)), (2, .int (xSumAt v col i)), (0, .ref (ad 0)), (1, .int col)]) cx.1 cx.2.1 dX0_sumAtOnce_42 hl (by decide) rfl (fun ls hl => ?_)
        refine lv_iload cx.1 cx.2.1 dX0_sumAtOnce_44 (lv_at hl 0 rfl) ?_
        refine lv_iconst (v := (-1)) cx.1 cx.2.1 dX0_sumAtOnce_46 (by decide) ?_
        refine lv_icmp_eq (tgt := 55) cx.1 cx.2.1 dX0_sumAtOnce_47 (by decide) (fun c_5 => ?_) (fun c_5 => ?_)
        · refine lv_iinc (v := nI (i + 1)) (lv' := [(3, .int (nI (i + 1))), (4, .int (xBro v (nI i) col)), (2, .int (xSumAt v col i)), (0, .ref (ad 0)), (1, .int col)]) cx.1 cx.2.1 dX0_sumAtOnce_55 hl (k := 1) rfl (nI_1 i) (by decide) rfl (fun ls hl => ?_)
          refine lv_goto (tgt := 30) cx.1 cx.2.1 dX0_sumAtOnce_58 (by decide) ?_
          refine ih _ _ _ ?_ ?_
          · show KI D A (xw ad ca v) s.heap _ _
            exact hI
          · show lv_has _ _ [(3, .int (nI (i + 1))), (2, .int (xSumAt v col (i + 1))), (0, .ref (ad 0)), (1, .int col)]
            rw [show xSumAt v col (i + 1) = xSumAt v col i from (by simp [xfCol, c_5, xSumAt_t, xSumAt_f])]
            exact lv_sub hl [0, 2, 3, 4] rfl
        · refine lv_iload_n cx.1 cx.2.1 dX0_sumAtOnce_50 rfl (lv_at hl 2 rfl) ?_
          refine lv_iload cx.1 cx.2.1 dX0_sumAtOnce_51 (lv_at hl 0 rfl) ?_
          refine lv_iadd cx.1 cx.2.1 dX0_sumAtOnce_53 ?_
          refine lv_istore_n (lv' := [(2, .int ((xSumAt v col i) + (xBro v (nI i) col))), (4, .int (xBro v (nI i) col)), (3, .int (nI i)), (0, .ref (ad 0)), (1, .int col)]) cx.1 cx.2.1 dX0_sumAtOnce_54 rfl hl (by decide) rfl (fun ls hl => ?_)
          refine lv_iinc (v := nI (i + 1)) (lv' := [(3, .int (nI (i + 1))), (2, .int ((xSumAt v col i) + (xBro v (nI i) col))), (4, .int (xBro v (nI i) col)), (0, .ref (ad 0)), (1, .int col)]) cx.1 cx.2.1 dX0_sumAtOnce_55 hl (k := 2) rfl (nI_1 i) (by decide) rfl (fun ls hl => ?_)
          refine lv_goto (tgt := 30) cx.1 cx.2.1 dX0_sumAtOnce_58 (by decide) ?_
          refine ih _ _ _ ?_ ?_
          · show KI D A (xw ad ca v) s.heap _ _
            exact hI
          · show lv_has _ _ [(3, .int (nI (i + 1))), (2, .int (xSumAt v col (i + 1))), (0, .ref (ad 0)), (1, .int col)]
            rw [show xSumAt v col (i + 1) = (xSumAt v col i) + (xBro v (nI i) col) from (by simp [xfCol, c_5, xSumAt_t, xSumAt_f])]
            exact lv_sub hl [0, 1, 3, 4] rfl
    · refine lv_iconst (v := 0) cx.1 cx.2.1 dX0_sumAtOnce_24 (by decide) ?_
      exact ke_x (by simp [xfCol, c_1, c_2]) (ke_i cx hr hlk hI (Nat.zero_le _) (Nat.zero_le _) dX0_sumAtOnce_25 (congrArg (fun z => some (Value.int z)) (by simp [xfCol, c_1, c_2])) rfl)
  · exact kt_iob cx hlS hlk htab hE hI (hl.1.trans hml.symm) (show (166, "there is no such column") ∈ kstrs by decide) dX0_sumAtOnce_7 dX0_sumAtOnce_10 dX0_sumAtOnce_11 dX0_sumAtOnce_13 dX0_sumAtOnce_16 ⟨Nat.le_of_ble_eq_true rfl, Nat.le_of_ble_eq_true rfl⟩ ⟨Nat.le_of_ble_eq_true rfl, Nat.le_of_ble_eq_true rfl⟩ (⟨(by simp [xfCol, c_1]), rfl⟩)

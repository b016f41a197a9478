set_option maxHeartbeats 4000000 in
set_option maxRecDepth 100000 in
theorem kX1_insert (l : Launch) (D : va_G) (ca : Nat → ClassId) (ad : Nat → Nat) (v : MS) (key a b : Int32) (h0 : vp_in (mc v) 2000) : CM l yX1_insert cX1_insert 5 none (KR 5 109) D ca (mw ad ca v) [.ref (ad 0), .int key, .int a, .int b] none (mw ad ca (mInsert v key a b)) := by
  refine CM.of (by decide) (Nat.le_of_ble_eq_true rfl) ?_
  intro p e s m below meth c A ls cx hml hr hlk hI hl
  have hl : lv_has ls 5 [(0, .ref (ad 0)), (1, .int key), (2, .int a), (3, .int b)] := hl
  refine lv_aload_n cx.1 cx.2.1 dX1_insert_0 rfl (lv_at hl 0 rfl) ?_
  refine lv_iload_n cx.1 cx.2.1 dX1_insert_1 rfl (lv_at hl 1 rfl) ?_
  refine lv_iload_n cx.1 cx.2.1 dX1_insert_2 rfl (lv_at hl 2 rfl) ?_
  refine lv_iload_n cx.1 cx.2.1 dX1_insert_3 rfl (lv_at hl 3 rfl) ?_
  refine mc_i 3 cx (hl.1.trans hml.symm) (kX1_faultOf l D ca ad v key a b) hI wk_494 wk_491 wk_493 wq_21 ⟨rfl, by decide +kernel⟩ rfl ⟨rfl, rfl⟩ ⟨Nat.le_of_ble_eq_true rfl, Nat.le_of_ble_eq_true rfl⟩ (Nat.le_of_ble_eq_true rfl) dX1_insert_4 ⟨Nat.zero_le _, Nat.zero_le _⟩ rfl (fun H locs hI => ?_)
  refine lv_istore (lv' := [(4, .int (mFault v key a b)), (0, .ref (ad 0)), (1, .int key), (2, .int a), (3, .int b)]) cx.1 cx.2.1 dX1_insert_7 hl (by decide) rfl (fun ls hl => ?_)
  refine lv_aload_n cx.1 cx.2.1 dX1_insert_9 rfl (lv_at hl 1 rfl) ?_
  refine k_join (D := D) (A := A) 33 (mw ad ca v) [.int (mfInsert v key a b), .ref (ad 0)] (fun H locs hI => ?_) (fun hj33 => ?_)
  · refine mc_i 1 cx (hl.1.trans hml.symm) (kX1_can l D ca ad v (mfInsert v key a b)) hI wk_512 wk_509 wk_511 wq_24 ⟨rfl, by decide +kernel⟩ rfl ⟨rfl, rfl⟩ ⟨Nat.le_of_ble_eq_true rfl, Nat.le_of_ble_eq_true rfl⟩ (Nat.le_of_ble_eq_true rfl) dX1_insert_33 ⟨Nat.zero_le _, Nat.zero_le _⟩ rfl (fun H locs hI => ?_)
    refine kb_eq (tgt := 51) cx dX1_insert_36 (by decide) (fun c_1 => ?_) (fun c_1 => ?_)
    · exact ke_v cx hr hlk hI (Nat.zero_le _) (Nat.zero_le _) dX1_insert_51 rfl (congrArg (mw ad ca) (by simp [mInsert, (of_decide_eq_false c_1)]))
    · have hk := mfInsert_in c_1
      refine lv_aload_n cx.1 cx.2.1 dX1_insert_39 rfl (lv_at hl 1 rfl) ?_
      refine lv_iload_n cx.1 cx.2.1 dX1_insert_40 rfl (lv_at hl 2 rfl) ?_
      refine lv_sipush (v := 1000) cx.1 cx.2.1 dX1_insert_41 (by decide) ?_
      refine lv_iload_n cx.1 cx.2.1 dX1_insert_44 rfl (lv_at hl 3 rfl) ?_
      refine lv_imul cx.1 cx.2.1 dX1_insert_45 ?_
      refine lv_iload_n cx.1 cx.2.1 dX1_insert_46 rfl (lv_at hl 4 rfl) ?_
      refine lv_iadd cx.1 cx.2.1 dX1_insert_47 ?_
      refine mc_v 2 cx (hl.1.trans hml.symm) (kX1_writes l D ca ad (mUz v (mfInsert v key a b)) key ((1000 * a) + b) hk h0) hI wk_516 wk_513 wk_515 wq_25 ⟨rfl, by decide +kernel⟩ rfl ⟨rfl, rfl⟩ ⟨Nat.le_of_ble_eq_true rfl, Nat.le_of_ble_eq_true rfl⟩ (Nat.le_of_ble_eq_true rfl) dX1_insert_48 ⟨Nat.zero_le _, Nat.zero_le _⟩ rfl (fun H locs hI => ?_)
      exact ke_v cx hr hlk hI (Nat.zero_le _) (Nat.zero_le _) dX1_insert_51 rfl (congrArg (mw ad ca) (by simp [mInsert, (of_decide_eq_true c_1)]))
  ·
    refine lv_iload cx.1 cx.2.1 dX1_insert_10 (lv_at hl 0 rfl) ?_
    refine lv_if_le (tgt := 20) cx.1 cx.2.1 dX1_insert_12 (by decide) (fun c_2 => ?_) (fun c_2 => ?_)
    · have hk := mFault_in c_2
      refine lv_aload_n cx.1 cx.2.1 dX1_insert_20 rfl (lv_at hl 1 rfl) ?_
      refine lv_iload_n cx.1 cx.2.1 dX1_insert_21 rfl (lv_at hl 2 rfl) ?_
      refine mc_i 1 cx (hl.1.trans hml.symm) (kX1_isSeen l D ca ad v key hk) hI wk_508 wk_505 wk_507 wq_23 ⟨rfl, by decide +kernel⟩ rfl ⟨rfl, rfl⟩ ⟨Nat.le_of_ble_eq_true rfl, Nat.le_of_ble_eq_true rfl⟩ (Nat.le_of_ble_eq_true rfl) dX1_insert_22 ⟨Nat.zero_le _, Nat.zero_le _⟩ rfl (fun H locs hI => ?_)
      refine kb_eq (tgt := 32) cx dX1_insert_25 (by decide) (fun c_3 => ?_) (fun c_3 => ?_)
      · refine lv_iconst (v := 0) cx.1 cx.2.1 dX1_insert_32 (by decide) ?_
        exact k_top (by first | (simp [mInsert, c_2, c_3, mfInsert]; done) | (simp [mInsert, c_2, mfInsert]; exact fun h => absurd c_3 h)) (hj33 _ _ hI)
      · refine lv_iconst (v := 3) cx.1 cx.2.1 dX1_insert_28 (by decide) ?_
        refine lv_goto (tgt := 33) cx.1 cx.2.1 dX1_insert_29 (by decide) ?_
        exact k_top (by first | (simp [mInsert, c_2, c_3, mfInsert]; done) | (simp [mInsert, c_2, mfInsert]; exact fun h => absurd c_3 h)) (hj33 _ _ hI)
    · refine lv_iload cx.1 cx.2.1 dX1_insert_15 (lv_at hl 0 rfl) ?_
      refine lv_goto (tgt := 33) cx.1 cx.2.1 dX1_insert_17 (by decide) ?_
      exact k_top (by first | (simp [mInsert, c_2, mfInsert]; done) | (simp [mInsert, mfInsert]; exact fun h => absurd c_2 h)) (hj33 _ _ hI)
set_option maxHeartbeats 4000000 in
set_option maxRecDepth 100000 in
theorem kX1_update (l : Launch) (D : va_G) (ca : Nat → ClassId) (ad : Nat → Nat) (v : MS) (key a b : Int32) (h0 : vp_in (mc v) 2000) : CM l yX1_update cX1_update 5 none (KR 5 109) D ca (mw ad ca v) [.ref (ad 0), .int key, .int a, .int b] none (mw ad ca (mUpdate v key a b)) := by
  refine CM.of (by decide) (Nat.le_of_ble_eq_true rfl) ?_
  intro p e s m below meth c A ls cx hml hr hlk hI hl
  have hl : lv_has ls 5 [(0, .ref (ad 0)), (1, .int key), (2, .int a), (3, .int b)] := hl
  refine lv_aload_n cx.1 cx.2.1 dX1_update_0 rfl (lv_at hl 0 rfl) ?_
  refine lv_iload_n cx.1 cx.2.1 dX1_update_1 rfl (lv_at hl 1 rfl) ?_
  refine lv_iload_n cx.1 cx.2.1 dX1_update_2 rfl (lv_at hl 2 rfl) ?_
  refine lv_iload_n cx.1 cx.2.1 dX1_update_3 rfl (lv_at hl 3 rfl) ?_
  refine mc_i 3 cx (hl.1.trans hml.symm) (kX1_faultOf l D ca ad v key a b) hI wk_494 wk_491 wk_493 wq_21 ⟨rfl, by decide +kernel⟩ rfl ⟨rfl, rfl⟩ ⟨Nat.le_of_ble_eq_true rfl, Nat.le_of_ble_eq_true rfl⟩ (Nat.le_of_ble_eq_true rfl) dX1_update_4 ⟨Nat.zero_le _, Nat.zero_le _⟩ rfl (fun H locs hI => ?_)
  refine lv_istore (lv' := [(4, .int (mFault v key a b)), (0, .ref (ad 0)), (1, .int key), (2, .int a), (3, .int b)]) cx.1 cx.2.1 dX1_update_7 hl (by decide) rfl (fun ls hl => ?_)
  refine lv_aload_n cx.1 cx.2.1 dX1_update_9 rfl (lv_at hl 1 rfl) ?_
  refine k_join (D := D) (A := A) 33 (mw ad ca v) [.int (mfUpdate v key a b), .ref (ad 0)] (fun H locs hI => ?_) (fun hj33 => ?_)
  · refine mc_i 1 cx (hl.1.trans hml.symm) (kX1_can l D ca ad v (mfUpdate v key a b)) hI wk_512 wk_509 wk_511 wq_24 ⟨rfl, by decide +kernel⟩ rfl ⟨rfl, rfl⟩ ⟨Nat.le_of_ble_eq_true rfl, Nat.le_of_ble_eq_true rfl⟩ (Nat.le_of_ble_eq_true rfl) dX1_update_33 ⟨Nat.zero_le _, Nat.zero_le _⟩ rfl (fun H locs hI => ?_)
    refine kb_eq (tgt := 51) cx dX1_update_36 (by decide) (fun c_1 => ?_) (fun c_1 => ?_)
    · exact ke_v cx hr hlk hI (Nat.zero_le _) (Nat.zero_le _) dX1_update_51 rfl (congrArg (mw ad ca) (by simp [mUpdate, (of_decide_eq_false c_1)]))
    · have hk := mfUpdate_in c_1
      refine lv_aload_n cx.1 cx.2.1 dX1_update_39 rfl (lv_at hl 1 rfl) ?_
      refine lv_iload_n cx.1 cx.2.1 dX1_update_40 rfl (lv_at hl 2 rfl) ?_
      refine lv_sipush (v := 1000) cx.1 cx.2.1 dX1_update_41 (by decide) ?_
      refine lv_iload_n cx.1 cx.2.1 dX1_update_44 rfl (lv_at hl 3 rfl) ?_
      refine lv_imul cx.1 cx.2.1 dX1_update_45 ?_
      refine lv_iload_n cx.1 cx.2.1 dX1_update_46 rfl (lv_at hl 4 rfl) ?_
      refine lv_iadd cx.1 cx.2.1 dX1_update_47 ?_
      refine mc_v 2 cx (hl.1.trans hml.symm) (kX1_writes l D ca ad (mUz v (mfUpdate v key a b)) key ((1000 * a) + b) hk h0) hI wk_516 wk_513 wk_515 wq_25 ⟨rfl, by decide +kernel⟩ rfl ⟨rfl, rfl⟩ ⟨Nat.le_of_ble_eq_true rfl, Nat.le_of_ble_eq_true rfl⟩ (Nat.le_of_ble_eq_true rfl) dX1_update_48 ⟨Nat.zero_le _, Nat.zero_le _⟩ rfl (fun H locs hI => ?_)
      exact ke_v cx hr hlk hI (Nat.zero_le _) (Nat.zero_le _) dX1_update_51 rfl (congrArg (mw ad ca) (by simp [mUpdate, (of_decide_eq_true c_1)]))
  ·
    refine lv_iload cx.1 cx.2.1 dX1_update_10 (lv_at hl 0 rfl) ?_
    refine lv_if_le (tgt := 20) cx.1 cx.2.1 dX1_update_12 (by decide) (fun c_2 => ?_) (fun c_2 => ?_)
    · have hk := mFault_in c_2
      refine lv_aload_n cx.1 cx.2.1 dX1_update_20 rfl (lv_at hl 1 rfl) ?_
      refine lv_iload_n cx.1 cx.2.1 dX1_update_21 rfl (lv_at hl 2 rfl) ?_
      refine mc_i 1 cx (hl.1.trans hml.symm) (kX1_isSeen l D ca ad v key hk) hI wk_508 wk_505 wk_507 wq_23 ⟨rfl, by decide +kernel⟩ rfl ⟨rfl, rfl⟩ ⟨Nat.le_of_ble_eq_true rfl, Nat.le_of_ble_eq_true rfl⟩ (Nat.le_of_ble_eq_true rfl) dX1_update_22 ⟨Nat.zero_le _, Nat.zero_le _⟩ rfl (fun H locs hI => ?_)
      refine kb_eq (tgt := 32) cx dX1_update_25 (by decide) (fun c_3 => ?_) (fun c_3 => ?_)
      · refine lv_iconst (v := 3) cx.1 cx.2.1 dX1_update_32 (by decide) ?_
        exact k_top (by first | (simp [mUpdate, c_2, c_3, mfUpdate]; done) | (simp [mUpdate, c_2, mfUpdate]; exact fun h => absurd c_3 h)) (hj33 _ _ hI)
      · refine lv_iconst (v := 0) cx.1 cx.2.1 dX1_update_28 (by decide) ?_
        refine lv_goto (tgt := 33) cx.1 cx.2.1 dX1_update_29 (by decide) ?_
        exact k_top (by first | (simp [mUpdate, c_2, c_3, mfUpdate]; done) | (simp [mUpdate, c_2, mfUpdate]; exact fun h => absurd c_3 h)) (hj33 _ _ hI)
    · refine lv_iload cx.1 cx.2.1 dX1_update_15 (lv_at hl 0 rfl) ?_
      refine lv_goto (tgt := 33) cx.1 cx.2.1 dX1_update_17 (by decide) ?_
      exact k_top (by first | (simp [mUpdate, c_2, mfUpdate]; done) | (simp [mUpdate, mfUpdate]; exact fun h => absurd c_2 h)) (hj33 _ _ hI)
set_option maxHeartbeats 4000000 in
set_option maxRecDepth 100000 in
theorem kX1_delete (l : Launch) (D : va_G) (ca : Nat → ClassId) (ad : Nat → Nat) (v : MS) (key : Int32) (h0 : vp_in (mc v) 2000) : CM l yX1_delete cX1_delete 3 (some .int) (KR 5 109) D ca (mw ad ca v) [.ref (ad 0), .int key] (some (.int (if mfDelete v key = 0 then mO v key.toNatClampNeg else 0))) (mw ad ca (mDelete v key)) := by
  refine CM.of (by decide) (Nat.le_of_ble_eq_true rfl) ?_
  intro p e s m below meth c A ls cx hml hr hlk hI hl
  have hl : lv_has ls 3 [(0, .ref (ad 0)), (1, .int key)] := hl
  refine lv_aload_n cx.1 cx.2.1 dX1_delete_0 rfl (lv_at hl 0 rfl) ?_
  refine k_join (D := D) (A := A) 25 (mw ad ca v) [.int (mfDelete v key), .ref (ad 0)] (fun H locs hI => ?_) (fun hj25 => ?_)
  · refine mc_i 1 cx (hl.1.trans hml.symm) (kX1_can l D ca ad v (mfDelete v key)) hI wk_512 wk_509 wk_511 wq_24 ⟨rfl, by decide +kernel⟩ rfl ⟨rfl, rfl⟩ ⟨Nat.le_of_ble_eq_true rfl, Nat.le_of_ble_eq_true rfl⟩ (Nat.le_of_ble_eq_true rfl) dX1_delete_25 ⟨Nat.zero_le _, Nat.zero_le _⟩ rfl (fun H locs hI => ?_)
    refine kb_ne (tgt := 33) cx dX1_delete_28 (by decide) (fun c_1 => ?_) (fun c_1 => ?_)
    · have hk := mfDelete_in c_1
      refine lv_aload_n cx.1 cx.2.1 dX1_delete_33 rfl (lv_at hl 0 rfl) ?_
      refine mg_0 cx hI dX1_delete_34 ?_
      refine lv_iload_n cx.1 cx.2.1 dX1_delete_37 rfl (lv_at hl 1 rfl) ?_
      refine ma_O cx hI hk dX1_delete_38 ?_
      refine k_top (y := mO v key.toNatClampNeg) rfl ?_
      refine k_top (y := mO v key.toNatClampNeg) rfl ?_
      refine lv_istore_n (lv' := [(2, .int (mO v key.toNatClampNeg)), (0, .ref (ad 0)), (1, .int key)]) cx.1 cx.2.1 dX1_delete_39 rfl hl (by decide) rfl (fun ls hl => ?_)
      refine lv_aload_n cx.1 cx.2.1 dX1_delete_40 rfl (lv_at hl 1 rfl) ?_
      refine lv_iload_n cx.1 cx.2.1 dX1_delete_41 rfl (lv_at hl 2 rfl) ?_
      refine lv_iconst (v := (-1)) cx.1 cx.2.1 dX1_delete_42 (by decide) ?_
      refine mc_v 2 cx (hl.1.trans hml.symm) (kX1_writes l D ca ad (mUz v (mfDelete v key)) key (-1) hk h0) hI wk_516 wk_513 wk_515 wq_25 ⟨rfl, by decide +kernel⟩ rfl ⟨rfl, rfl⟩ ⟨Nat.le_of_ble_eq_true rfl, Nat.le_of_ble_eq_true rfl⟩ (Nat.le_of_ble_eq_true rfl) dX1_delete_43 ⟨Nat.zero_le _, Nat.zero_le _⟩ rfl (fun H locs hI => ?_)
      refine lv_iload_n cx.1 cx.2.1 dX1_delete_46 rfl (lv_at hl 0 rfl) ?_
      exact ke_i cx hr hlk hI (Nat.zero_le _) (Nat.zero_le _) dX1_delete_47 (congrArg (fun z => some (Value.int z)) (by simp [mDelete, (of_decide_eq_true c_1)])) (congrArg (mw ad ca) (by simp [mDelete, (of_decide_eq_true c_1)]))
    · refine lv_iconst (v := 0) cx.1 cx.2.1 dX1_delete_31 (by decide) ?_
      exact ke_i cx hr hlk hI (Nat.zero_le _) (Nat.zero_le _) dX1_delete_32 (congrArg (fun z => some (Value.int z)) (by simp [mDelete, (of_decide_eq_false c_1)])) (congrArg (mw ad ca) (by simp [mDelete, (of_decide_eq_false c_1)]))
  ·
    refine lv_iload_n cx.1 cx.2.1 dX1_delete_1 rfl (lv_at hl 1 rfl) ?_
    refine ks_i 1 cx (hl.1.trans hml.symm) (kX1_isKey l D ca key) hI wk_500 wk_498 wk_499 wk_3 ⟨by decide, by decide, by decide +kernel⟩ rfl ⟨rfl, rfl⟩ ⟨Nat.le_of_ble_eq_true rfl, Nat.le_of_ble_eq_true rfl⟩ (Nat.le_of_ble_eq_true rfl) dX1_delete_2 ⟨Nat.zero_le _, Nat.zero_le _⟩ rfl (fun H locs hI => ?_)
    refine kb_ne (tgt := 12) cx dX1_delete_5 (by decide) (fun c_2 => ?_) (fun c_2 => ?_)
    · have hk := xKey_in c_2
      refine lv_aload_n cx.1 cx.2.1 dX1_delete_12 rfl (lv_at hl 0 rfl) ?_
      refine lv_iload_n cx.1 cx.2.1 dX1_delete_13 rfl (lv_at hl 1 rfl) ?_
      refine mc_i 1 cx (hl.1.trans hml.symm) (kX1_isSeen l D ca ad v key hk) hI wk_508 wk_505 wk_507 wq_23 ⟨rfl, by decide +kernel⟩ rfl ⟨rfl, rfl⟩ ⟨Nat.le_of_ble_eq_true rfl, Nat.le_of_ble_eq_true rfl⟩ (Nat.le_of_ble_eq_true rfl) dX1_delete_14 ⟨Nat.zero_le _, Nat.zero_le _⟩ rfl (fun H locs hI => ?_)
      refine kb_eq (tgt := 24) cx dX1_delete_17 (by decide) (fun c_3 => ?_) (fun c_3 => ?_)
      · refine lv_iconst (v := 2) cx.1 cx.2.1 dX1_delete_24 (by decide) ?_
        exact k_top (by first | (simp [mDelete, c_2, c_3, mfDelete]; done) | (simp [mDelete, c_2, mfDelete]; exact fun h => absurd c_3 h)) (hj25 _ _ hI)
      · refine lv_iconst (v := 0) cx.1 cx.2.1 dX1_delete_20 (by decide) ?_
        refine lv_goto (tgt := 25) cx.1 cx.2.1 dX1_delete_21 (by decide) ?_
        exact k_top (by first | (simp [mDelete, c_2, c_3, mfDelete]; done) | (simp [mDelete, c_2, mfDelete]; exact fun h => absurd c_3 h)) (hj25 _ _ hI)
    · refine lv_iconst (v := 1) cx.1 cx.2.1 dX1_delete_8 (by decide) ?_
      refine lv_goto (tgt := 25) cx.1 cx.2.1 dX1_delete_9 (by decide) ?_
      exact k_top (by first | (simp [mDelete, c_2, mfDelete]; done) | (simp [mDelete, mfDelete]; exact fun h => absurd c_2 h)) (hj25 _ _ hI)
set_option maxHeartbeats 4000000 in
set_option maxRecDepth 100000 in
theorem kX1_rekey (l : Launch) (D : va_G) (ca : Nat → ClassId) (ad : Nat → Nat) (v : MS) (key to : Int32) (h0 : vp_in (mc v) 2000) (h1 : vp_in (mc v + 1) 2000) : CM l yX1_rekey cX1_rekey 4 none (KR 4 87) D ca (mw ad ca v) [.ref (ad 0), .int key, .int to] none (mw ad ca (mRekey v key to)) := by
  refine CM.of (by decide) (Nat.le_of_ble_eq_true rfl) ?_
  intro p e s m below meth c A ls cx hml hr hlk hI hl
  have hl : lv_has ls 4 [(0, .ref (ad 0)), (1, .int key), (2, .int to)] := hl
  refine k_join (D := D) (A := A) 19 (mw ad ca v) [.int (b2i (kBoth (xWithin key 0 39) (xWithin to 0 39)))] (fun H locs hI => ?_) (fun hj19 => ?_)
  · refine lv_istore_n (lv' := [(3, .int (b2i (kBoth (xWithin key 0 39) (xWithin to 0 39)))), (0, .ref (ad 0)), (1, .int key), (2, .int to)]) cx.1 cx.2.1 dX1_rekey_19 rfl hl (by decide) rfl (fun ls hl => ?_)
    refine lv_aload_n cx.1 cx.2.1 dX1_rekey_20 rfl (lv_at hl 1 rfl) ?_
    refine k_join (D := D) (A := A) 63 (mw ad ca v) [.int (mfRekey v key to), .ref (ad 0)] (fun H locs hI => ?_) (fun hj63 => ?_)
    · refine mc_i 1 cx (hl.1.trans hml.symm) (kX1_can l D ca ad v (mfRekey v key to)) hI wk_512 wk_509 wk_511 wq_24 ⟨rfl, by decide +kernel⟩ rfl ⟨rfl, rfl⟩ ⟨Nat.le_of_ble_eq_true rfl, Nat.le_of_ble_eq_true rfl⟩ (Nat.le_of_ble_eq_true rfl) dX1_rekey_63 ⟨Nat.zero_le _, Nat.zero_le _⟩ rfl (fun H locs hI => ?_)
      refine kb_eq (tgt := 116) cx dX1_rekey_66 (by decide) (fun c_1 => ?_) (fun c_1 => ?_)
      · exact ke_v cx hr hlk hI (Nat.zero_le _) (Nat.zero_le _) dX1_rekey_116 rfl (congrArg (mw ad ca) (by simp [mRekey, (of_decide_eq_false c_1)]))
      · obtain ⟨hk, hk2⟩ := mfRekey_in c_1
        refine lv_aload_n cx.1 cx.2.1 dX1_rekey_69 rfl (lv_at hl 1 rfl) ?_
        refine mg_0 cx hI dX1_rekey_70 ?_
        refine lv_iload_n cx.1 cx.2.1 dX1_rekey_73 rfl (lv_at hl 3 rfl) ?_
        refine lv_aload_n cx.1 cx.2.1 dX1_rekey_74 rfl (lv_at hl 1 rfl) ?_
        refine mg_0 cx hI dX1_rekey_75 ?_
        refine lv_iload_n cx.1 cx.2.1 dX1_rekey_78 rfl (lv_at hl 2 rfl) ?_
        refine ma_O cx hI hk dX1_rekey_79 ?_
        refine k_top (y := mO v key.toNatClampNeg) rfl ?_
        refine ms_O cx hI hk2 dX1_rekey_80 (fun H locs hI => ?_)
        refine lv_aload_n cx.1 cx.2.1 dX1_rekey_81 rfl (lv_at hl 1 rfl) ?_
        refine mg_0 cx hI dX1_rekey_82 ?_
        refine lv_iload_n cx.1 cx.2.1 dX1_rekey_85 rfl (lv_at hl 2 rfl) ?_
        refine lv_iconst (v := (-1)) cx.1 cx.2.1 dX1_rekey_86 (by decide) ?_
        refine ms_O cx hI hk dX1_rekey_87 (fun H locs hI => ?_)
        have hI : KI D A (mw ad ca (mMove (mUz v (mfRekey v key to)) key to)) s.heap _ _ := hI
        refine lv_aload_n cx.1 cx.2.1 dX1_rekey_88 rfl (lv_at hl 1 rfl) ?_
        refine k_join (D := D) (A := A) 99 (mw ad ca (mMove (mUz v (mfRekey v key to)) key to)) [.int (mMin key to), .ref (ad 0)] (fun H locs hI => ?_) (fun hj99 => ?_)
        · refine mc_v 1 cx (hl.1.trans hml.symm) (kX1_wrote l D ca ad (mMove (mUz v (mfRekey v key to)) key to) (mMin key to) (mMin_in hk hk2) h0) hI wk_520 wk_517 wk_519 wq_26 ⟨rfl, by decide +kernel⟩ rfl ⟨rfl, rfl⟩ ⟨Nat.le_of_ble_eq_true rfl, Nat.le_of_ble_eq_true rfl⟩ (Nat.le_of_ble_eq_true rfl) dX1_rekey_99 ⟨Nat.zero_le _, Nat.zero_le _⟩ rfl (fun H locs hI => ?_)
          refine lv_aload_n cx.1 cx.2.1 dX1_rekey_102 rfl (lv_at hl 1 rfl) ?_
          refine k_join (D := D) (A := A) 113 (mw ad ca (mWrote (mMove (mUz v (mfRekey v key to)) key to) (mMin key to))) [.int (mMax key to), .ref (ad 0)] (fun H locs hI => ?_) (fun hj113 => ?_)
          · refine mc_v 1 cx (hl.1.trans hml.symm) (kX1_wrote l D ca ad (mWrote (mMove (mUz v (mfRekey v key to)) key to) (mMin key to)) (mMax key to) (mMax_in hk hk2) (mWrote_c h0 h1)) hI wk_520 wk_517 wk_519 wq_26 ⟨rfl, by decide +kernel⟩ rfl ⟨rfl, rfl⟩ ⟨Nat.le_of_ble_eq_true rfl, Nat.le_of_ble_eq_true rfl⟩ (Nat.le_of_ble_eq_true rfl) dX1_rekey_113 ⟨Nat.zero_le _, Nat.zero_le _⟩ rfl (fun H locs hI => ?_)
            exact ke_v cx hr hlk hI (Nat.zero_le _) (Nat.zero_le _) dX1_rekey_116 rfl (congrArg (mw ad ca) (by simp [mRekey, (of_decide_eq_true c_1)]))
          ·
            refine lv_iload_n cx.1 cx.2.1 dX1_rekey_103 rfl (lv_at hl 2 rfl) ?_
            refine lv_iload_n cx.1 cx.2.1 dX1_rekey_104 rfl (lv_at hl 3 rfl) ?_
            refine lv_icmp_ge (tgt := 112) cx.1 cx.2.1 dX1_rekey_105 (by decide) (fun c_2 => ?_) (fun c_2 => ?_)
            · refine lv_iload_n cx.1 cx.2.1 dX1_rekey_112 rfl (lv_at hl 2 rfl) ?_
              exact k_top (by first | (simp [mRekey, (of_decide_eq_true c_1), c_2, mMax]; done) | (simp [mRekey, (of_decide_eq_true c_1), mMax]; exact fun h => absurd c_2 h)) (hj113 _ _ hI)
            · refine lv_iload_n cx.1 cx.2.1 dX1_rekey_108 rfl (lv_at hl 3 rfl) ?_
              refine lv_goto (tgt := 113) cx.1 cx.2.1 dX1_rekey_109 (by decide) ?_
              exact k_top (by first | (simp [mRekey, (of_decide_eq_true c_1), c_2, mMax]; done) | (simp [mRekey, (of_decide_eq_true c_1), mMax]; exact fun h => absurd c_2 h)) (hj113 _ _ hI)
        ·
          refine lv_iload_n cx.1 cx.2.1 dX1_rekey_89 rfl (lv_at hl 2 rfl) ?_
          refine lv_iload_n cx.1 cx.2.1 dX1_rekey_90 rfl (lv_at hl 3 rfl) ?_
          refine lv_icmp_ge (tgt := 98) cx.1 cx.2.1 dX1_rekey_91 (by decide) (fun c_3 => ?_) (fun c_3 => ?_)
          · refine lv_iload_n cx.1 cx.2.1 dX1_rekey_98 rfl (lv_at hl 3 rfl) ?_
            exact k_top (by first | (simp [mRekey, (of_decide_eq_true c_1), c_3, mMin]; done) | (simp [mRekey, (of_decide_eq_true c_1), mMin]; exact fun h => absurd c_3 h)) (hj99 _ _ hI)
          · refine lv_iload_n cx.1 cx.2.1 dX1_rekey_94 rfl (lv_at hl 2 rfl) ?_
            refine lv_goto (tgt := 99) cx.1 cx.2.1 dX1_rekey_95 (by decide) ?_
            exact k_top (by first | (simp [mRekey, (of_decide_eq_true c_1), c_3, mMin]; done) | (simp [mRekey, (of_decide_eq_true c_1), mMin]; exact fun h => absurd c_3 h)) (hj99 _ _ hI)
    ·
      refine lv_iload_n cx.1 cx.2.1 dX1_rekey_21 rfl (lv_at hl 0 rfl) ?_
      refine kb_ne (tgt := 29) cx dX1_rekey_22 (by decide) (fun c_4 => ?_) (fun c_4 => ?_)
      · have hk : vp_in key 40 := xKey_in (kAnd2 c_4).1
        have hk2 : vp_in to 40 := xKey_in (kAnd2 c_4).2
        refine lv_iload_n cx.1 cx.2.1 dX1_rekey_29 rfl (lv_at hl 2 rfl) ?_
        refine lv_iload_n cx.1 cx.2.1 dX1_rekey_30 rfl (lv_at hl 3 rfl) ?_
        refine lv_icmp_ne (tgt := 38) cx.1 cx.2.1 dX1_rekey_31 (by decide) (fun c_5 => ?_) (fun c_5 => ?_)
        · refine lv_aload_n cx.1 cx.2.1 dX1_rekey_38 rfl (lv_at hl 1 rfl) ?_
          refine lv_iload_n cx.1 cx.2.1 dX1_rekey_39 rfl (lv_at hl 2 rfl) ?_
          refine mc_i 1 cx (hl.1.trans hml.symm) (kX1_isSeen l D ca ad v key hk) hI wk_508 wk_505 wk_507 wq_23 ⟨rfl, by decide +kernel⟩ rfl ⟨rfl, rfl⟩ ⟨Nat.le_of_ble_eq_true rfl, Nat.le_of_ble_eq_true rfl⟩ (Nat.le_of_ble_eq_true rfl) dX1_rekey_40 ⟨Nat.zero_le _, Nat.zero_le _⟩ rfl (fun H locs hI => ?_)
          refine kb_ne (tgt := 50) cx dX1_rekey_43 (by decide) (fun c_6 => ?_) (fun c_6 => ?_)
          · refine lv_aload_n cx.1 cx.2.1 dX1_rekey_50 rfl (lv_at hl 1 rfl) ?_
            refine lv_iload_n cx.1 cx.2.1 dX1_rekey_51 rfl (lv_at hl 3 rfl) ?_
            refine mc_i 1 cx (hl.1.trans hml.symm) (kX1_isSeen l D ca ad v to hk2) hI wk_508 wk_505 wk_507 wq_23 ⟨rfl, by decide +kernel⟩ rfl ⟨rfl, rfl⟩ ⟨Nat.le_of_ble_eq_true rfl, Nat.le_of_ble_eq_true rfl⟩ (Nat.le_of_ble_eq_true rfl) dX1_rekey_52 ⟨Nat.zero_le _, Nat.zero_le _⟩ rfl (fun H locs hI => ?_)
            refine kb_eq (tgt := 62) cx dX1_rekey_55 (by decide) (fun c_7 => ?_) (fun c_7 => ?_)
            · refine lv_iconst (v := 0) cx.1 cx.2.1 dX1_rekey_62 (by decide) ?_
              exact k_top (by first | (simp [mRekey, c_4, c_5, c_6, c_7, mfRekey]; done) | (simp [mRekey, c_4, c_5, c_6, mfRekey]; exact fun h => absurd c_7 h)) (hj63 _ _ hI)
            · refine lv_iconst (v := 4) cx.1 cx.2.1 dX1_rekey_58 (by decide) ?_
              refine lv_goto (tgt := 63) cx.1 cx.2.1 dX1_rekey_59 (by decide) ?_
              exact k_top (by first | (simp [mRekey, c_4, c_5, c_6, c_7, mfRekey]; done) | (simp [mRekey, c_4, c_5, c_6, mfRekey]; exact fun h => absurd c_7 h)) (hj63 _ _ hI)
          · refine lv_iconst (v := 3) cx.1 cx.2.1 dX1_rekey_46 (by decide) ?_
            refine lv_goto (tgt := 63) cx.1 cx.2.1 dX1_rekey_47 (by decide) ?_
            exact k_top (by first | (simp [mRekey, c_4, c_5, c_6, mfRekey]; done) | (simp [mRekey, c_4, c_5, mfRekey]; exact fun h => absurd c_6 h)) (hj63 _ _ hI)
        · refine lv_iconst (v := 2) cx.1 cx.2.1 dX1_rekey_34 (by decide) ?_
          refine lv_goto (tgt := 63) cx.1 cx.2.1 dX1_rekey_35 (by decide) ?_
          exact k_top (by first | (simp [mRekey, c_4, c_5, mfRekey]; done) | (simp [mRekey, c_4, mfRekey]; exact fun h => absurd c_5 h)) (hj63 _ _ hI)
      · refine lv_iconst (v := 1) cx.1 cx.2.1 dX1_rekey_25 (by decide) ?_
        refine lv_goto (tgt := 63) cx.1 cx.2.1 dX1_rekey_26 (by decide) ?_
        exact k_top (by first | (simp [mRekey, c_4, mfRekey]; done) | (simp [mRekey, mfRekey]; exact fun h => absurd c_4 h)) (hj63 _ _ hI)
  ·
    refine lv_iload_n cx.1 cx.2.1 dX1_rekey_0 rfl (lv_at hl 1 rfl) ?_
    refine ks_i 1 cx (hl.1.trans hml.symm) (kX1_isKey l D ca key) hI wk_500 wk_498 wk_499 wk_3 ⟨by decide, by decide, by decide +kernel⟩ rfl ⟨rfl, rfl⟩ ⟨Nat.le_of_ble_eq_true rfl, Nat.le_of_ble_eq_true rfl⟩ (Nat.le_of_ble_eq_true rfl) dX1_rekey_1 ⟨Nat.zero_le _, Nat.zero_le _⟩ rfl (fun H locs hI => ?_)
    refine kb_eq (tgt := 18) cx dX1_rekey_4 (by decide) (fun c_8 => ?_) (fun c_8 => ?_)
    · refine lv_iconst (v := 0) cx.1 cx.2.1 dX1_rekey_18 (by decide) ?_
      exact k_top (by first | (simp [mRekey, c_8, b2i, kBoth]; done) | (simp [mRekey, b2i, kBoth]; exact fun h => absurd c_8 h)) (hj19 _ _ hI)
    · refine lv_iload_n cx.1 cx.2.1 dX1_rekey_7 rfl (lv_at hl 2 rfl) ?_
      refine ks_i 1 cx (hl.1.trans hml.symm) (kX1_isKey l D ca to) hI wk_500 wk_498 wk_499 wk_3 ⟨by decide, by decide, by decide +kernel⟩ rfl ⟨rfl, rfl⟩ ⟨Nat.le_of_ble_eq_true rfl, Nat.le_of_ble_eq_true rfl⟩ (Nat.le_of_ble_eq_true rfl) dX1_rekey_8 ⟨Nat.zero_le _, Nat.zero_le _⟩ rfl (fun H locs hI => ?_)
      refine kb_eq (tgt := 18) cx dX1_rekey_11 (by decide) (fun c_9 => ?_) (fun c_9 => ?_)
      · refine lv_iconst (v := 0) cx.1 cx.2.1 dX1_rekey_18 (by decide) ?_
        exact k_top (by first | (simp [mRekey, c_8, c_9, b2i, kBoth]; done) | (simp [mRekey, c_8, b2i, kBoth]; exact fun h => absurd c_9 h)) (hj19 _ _ hI)
      · refine lv_iconst (v := 1) cx.1 cx.2.1 dX1_rekey_14 (by decide) ?_
        refine lv_goto (tgt := 19) cx.1 cx.2.1 dX1_rekey_15 (by decide) ?_
        exact k_top (by first | (simp [mRekey, c_8, c_9, b2i, kBoth]; done) | (simp [mRekey, c_8, b2i, kBoth]; exact fun h => absurd c_9 h)) (hj19 _ _ hI)
set_option maxHeartbeats 4000000 in
set_option maxRecDepth 100000 in
theorem kX1_clears (l : Launch) (D : va_G) (ca : Nat → ClassId) (ad : Nat → Nat) (v : MS) : CM l yX1_clears cX1_clears 2 none (KR 0 0) D ca (mw ad ca v) [.ref (ad 0)] none (mw ad ca (mClears v)) := by
  refine CM.of (by decide) (Nat.le_of_ble_eq_true rfl) ?_
  intro p e s m below meth c A ls cx hml hr hlk hI hl
  have hl : lv_has ls 2 [(0, .ref (ad 0))] := hl
  refine lv_iconst (v := 0) cx.1 cx.2.1 dX1_clears_0 (by decide) ?_
  refine lv_istore_n (lv' := [(1, .int 0), (0, .ref (ad 0))]) cx.1 cx.2.1 dX1_clears_1 rfl hl (by decide) rfl (fun ls hl => ?_)
  refine k_loop 40 (fun i => (mw ad ca (mClr v i))) (fun i => [(1, .int (nI i)), (0, .ref (ad 0))]) hI (lv_sub hl [0, 1] rfl) (fun H locs ls hI hl => ?_) (fun i hi H locs ls hI hl ih => ?_)
  · have hI : KI D A (mw ad ca (mClr v 40)) s.heap H locs := hI
    have hl : lv_has ls 2 [(1, .int (nI 40)), (0, .ref (ad 0))] := hl
    refine lv_iload_n cx.1 cx.2.1 dX1_clears_2 rfl (lv_at hl 0 rfl) ?_
    refine lv_bipush (v := 40) cx.1 cx.2.1 dX1_clears_3 (by decide) ?_
    refine lv_icmp_ge (tgt := 28) cx.1 cx.2.1 dX1_clears_5 (by decide) (fun _ => ?_) (fun h9 => absurd (by decide : (40 : Int32) ≤ nI 40) h9)
    refine lv_aload_n cx.1 cx.2.1 dX1_clears_28 rfl (lv_at hl 1 rfl) ?_
    refine lv_iconst (v := 0) cx.1 cx.2.1 dX1_clears_29 (by decide) ?_
    refine mp_9 cx hI dX1_clears_30 (fun H locs hI => ?_)
    refine lv_aload_n cx.1 cx.2.1 dX1_clears_33 rfl (lv_at hl 1 rfl) ?_
    refine lv_iconst (v := 0) cx.1 cx.2.1 dX1_clears_34 (by decide) ?_
    refine mp_10 cx hI dX1_clears_35 (fun H locs hI => ?_)
    exact ke_v cx hr hlk hI (Nat.zero_le _) (Nat.zero_le _) dX1_clears_38 rfl (congrArg (mw ad ca) (by simp [mClears]))
  · have hI : KI D A (mw ad ca (mClr v i)) s.heap H locs := hI
    have hl : lv_has ls 2 [(1, .int (nI i)), (0, .ref (ad 0))] := hl
    refine lv_iload_n cx.1 cx.2.1 dX1_clears_2 rfl (lv_at hl 0 rfl) ?_
    refine lv_bipush (v := 40) cx.1 cx.2.1 dX1_clears_3 (by decide) ?_
    refine lv_icmp_ge (tgt := 28) cx.1 cx.2.1 dX1_clears_5 (by decide) (fun h9 => absurd h9 (nI_ge hi (by decide))) (fun _ => ?_)
    refine lv_aload_n cx.1 cx.2.1 dX1_clears_8 rfl (lv_at hl 1 rfl) ?_
    refine mg_2 cx hI dX1_clears_9 ?_
    refine lv_iload_n cx.1 cx.2.1 dX1_clears_12 rfl (lv_at hl 0 rfl) ?_
    refine lv_iconst (v := 0) cx.1 cx.2.1 dX1_clears_13 (by decide) ?_
    refine ms_H cx hI (vp_in_nI hi (by decide)) dX1_clears_14 (fun H locs hI => ?_)
    refine lv_aload_n cx.1 cx.2.1 dX1_clears_15 rfl (lv_at hl 1 rfl) ?_
    refine mg_3 cx hI dX1_clears_16 ?_
    refine lv_iload_n cx.1 cx.2.1 dX1_clears_19 rfl (lv_at hl 0 rfl) ?_
    refine lv_iconst (v := 0) cx.1 cx.2.1 dX1_clears_20 (by decide) ?_
    refine ms_F cx hI (vp_in_nI hi (by decide)) dX1_clears_21 (fun H locs hI => ?_)
    refine lv_iinc (v := nI (i + 1)) (lv' := [(1, .int (nI (i + 1))), (0, .ref (ad 0))]) cx.1 cx.2.1 dX1_clears_22 hl (k := 0) rfl (nI_1 i) (by decide) rfl (fun ls hl => ?_)
    refine lv_goto (tgt := 2) cx.1 cx.2.1 dX1_clears_25 (by decide) ?_
    refine ih _ _ _ ?_ ?_
    · show KI D A (mw ad ca (mClr v (i + 1))) s.heap _ _
      rw [show mClr v (i + 1) = mUF (mUH (mClr v i) (upd (mH (mClr v i)) (nI i).toNatClampNeg (vp_nar .boolean 0))) (upd (mF (mUH (mClr v i) (upd (mH (mClr v i)) (nI i).toNatClampNeg (vp_nar .boolean 0)))) (nI i).toNatClampNeg (vp_nar .boolean 0)) from rfl]
      exact hI
    · show lv_has _ _ [(1, .int (nI (i + 1))), (0, .ref (ad 0))]
      exact lv_sub hl [0, 1] rfl
set_option maxHeartbeats 4000000 in
set_option maxRecDepth 100000 in
theorem kX1_start (l : Launch) (D : va_G) (ca : Nat → ClassId) (ad : Nat → Nat) (v : MS) (al pa : Int32) : CM l yX1_start cX1_start 4 none (KR 1 22) D ca (mw ad ca v) [.ref (ad 0), .int al, .int pa] none (mw ad ca (mStart v al pa)) := by
  refine CM.of (by decide) (Nat.le_of_ble_eq_true rfl) ?_
  intro p e s m below meth c A ls cx hml hr hlk hI hl
  have hl : lv_has ls 4 [(0, .ref (ad 0)), (1, .int al), (2, .int pa)] := hl
  refine k_join (D := D) (A := A) 25 (mw ad ca v) [.int (b2i (kBoth (xWithin al 0 2) (xWithin pa 0 999)))] (fun H locs hI => ?_) (fun hj25 => ?_)
  · refine lv_istore_n (lv' := [(3, .int (b2i (kBoth (xWithin al 0 2) (xWithin pa 0 999)))), (0, .ref (ad 0)), (1, .int al), (2, .int pa)]) cx.1 cx.2.1 dX1_start_25 rfl hl (by decide) rfl (fun ls hl => ?_)
    refine lv_aload_n cx.1 cx.2.1 dX1_start_26 rfl (lv_at hl 1 rfl) ?_
    refine k_join (D := D) (A := A) 47 (mw ad ca v) [.int (mfStart v al pa), .ref (ad 0)] (fun H locs hI => ?_) (fun hj47 => ?_)
    · refine mc_i 1 cx (hl.1.trans hml.symm) (kX1_can l D ca ad v (mfStart v al pa)) hI wk_512 wk_509 wk_511 wq_24 ⟨rfl, by decide +kernel⟩ rfl ⟨rfl, rfl⟩ ⟨Nat.le_of_ble_eq_true rfl, Nat.le_of_ble_eq_true rfl⟩ (Nat.le_of_ble_eq_true rfl) dX1_start_47 ⟨Nat.zero_le _, Nat.zero_le _⟩ rfl (fun H locs hI => ?_)
      refine kb_eq (tgt := 72) cx dX1_start_50 (by decide) (fun c_1 => ?_) (fun c_1 => ?_)
      · exact ke_v cx hr hlk hI (Nat.zero_le _) (Nat.zero_le _) dX1_start_72 rfl (congrArg (mw ad ca) (by simp [mStart, (of_decide_eq_false c_1)]))
      · refine lv_aload_n cx.1 cx.2.1 dX1_start_53 rfl (lv_at hl 1 rfl) ?_
        refine lv_iload_n cx.1 cx.2.1 dX1_start_54 rfl (lv_at hl 2 rfl) ?_
        refine mp_5 cx hI dX1_start_55 (fun H locs hI => ?_)
        refine lv_aload_n cx.1 cx.2.1 dX1_start_58 rfl (lv_at hl 1 rfl) ?_
        refine lv_iload_n cx.1 cx.2.1 dX1_start_59 rfl (lv_at hl 3 rfl) ?_
        refine mp_6 cx hI dX1_start_60 (fun H locs hI => ?_)
        refine lv_aload_n cx.1 cx.2.1 dX1_start_63 rfl (lv_at hl 1 rfl) ?_
        refine mc_v 0 cx (hl.1.trans hml.symm) (kX1_clears l D ca ad (mUq (mUt (mUz v (mfStart v al pa)) al) pa)) hI wk_551 wk_548 wk_550 wq_29 ⟨rfl, by decide +kernel⟩ rfl ⟨rfl, rfl⟩ ⟨Nat.le_of_ble_eq_true rfl, Nat.le_of_ble_eq_true rfl⟩ (Nat.le_of_ble_eq_true rfl) dX1_start_64 ⟨Nat.zero_le _, Nat.zero_le _⟩ rfl (fun H locs hI => ?_)
        refine lv_aload_n cx.1 cx.2.1 dX1_start_67 rfl (lv_at hl 1 rfl) ?_
        refine lv_iconst (v := 1) cx.1 cx.2.1 dX1_start_68 (by decide) ?_
        refine mp_4 cx hI dX1_start_69 (fun H locs hI => ?_)
        exact ke_v cx hr hlk hI (Nat.zero_le _) (Nat.zero_le _) dX1_start_72 rfl (congrArg (mw ad ca) (by simp [mStart, (of_decide_eq_true c_1)]))
    ·
      refine lv_iload_n cx.1 cx.2.1 dX1_start_27 rfl (lv_at hl 0 rfl) ?_
      refine kb_ne (tgt := 35) cx dX1_start_28 (by decide) (fun c_2 => ?_) (fun c_2 => ?_)
      · refine lv_aload_n cx.1 cx.2.1 dX1_start_35 rfl (lv_at hl 1 rfl) ?_
        refine mg_4 cx hI dX1_start_36 ?_
        refine lv_if_ne (tgt := 46) cx.1 cx.2.1 dX1_start_39 (by decide) (fun c_3 => ?_) (fun c_3 => ?_)
        · refine lv_iconst (v := 2) cx.1 cx.2.1 dX1_start_46 (by decide) ?_
          exact k_top (by first | (simp [mStart, c_2, c_3, mfStart]; done) | (simp [mStart, c_2, mfStart]; exact fun h => absurd c_3 h)) (hj47 _ _ hI)
        · refine lv_iconst (v := 0) cx.1 cx.2.1 dX1_start_42 (by decide) ?_
          refine lv_goto (tgt := 47) cx.1 cx.2.1 dX1_start_43 (by decide) ?_
          exact k_top (by first | (simp [mStart, c_2, c_3, mfStart]; done) | (simp [mStart, c_2, mfStart]; exact fun h => absurd c_3 h)) (hj47 _ _ hI)
      · refine lv_iconst (v := 1) cx.1 cx.2.1 dX1_start_31 (by decide) ?_
        refine lv_goto (tgt := 47) cx.1 cx.2.1 dX1_start_32 (by decide) ?_
        exact k_top (by first | (simp [mStart, c_2, mfStart]; done) | (simp [mStart, mfStart]; exact fun h => absurd c_2 h)) (hj47 _ _ hI)
  ·
    refine lv_iload_n cx.1 cx.2.1 dX1_start_0 rfl (lv_at hl 1 rfl) ?_
    refine lv_iconst (v := 0) cx.1 cx.2.1 dX1_start_1 (by decide) ?_
    refine lv_iconst (v := 2) cx.1 cx.2.1 dX1_start_2 (by decide) ?_
    refine ks_i 3 cx (hl.1.trans hml.symm) (kX1_isIn l D ca al 0 2) hI wk_497 wk_495 wk_496 wk_3 ⟨by decide, by decide, by decide +kernel⟩ rfl ⟨rfl, rfl⟩ ⟨Nat.le_of_ble_eq_true rfl, Nat.le_of_ble_eq_true rfl⟩ (Nat.le_of_ble_eq_true rfl) dX1_start_3 ⟨Nat.zero_le _, Nat.zero_le _⟩ rfl (fun H locs hI => ?_)
    refine kb_eq (tgt := 24) cx dX1_start_6 (by decide) (fun c_4 => ?_) (fun c_4 => ?_)
    · refine lv_iconst (v := 0) cx.1 cx.2.1 dX1_start_24 (by decide) ?_
      exact k_top (by first | (simp [mStart, c_4, b2i, kBoth]; done) | (simp [mStart, b2i, kBoth]; exact fun h => absurd c_4 h)) (hj25 _ _ hI)
    · refine lv_iload_n cx.1 cx.2.1 dX1_start_9 rfl (lv_at hl 2 rfl) ?_
      refine lv_iconst (v := 0) cx.1 cx.2.1 dX1_start_10 (by decide) ?_
      refine lv_sipush (v := 999) cx.1 cx.2.1 dX1_start_11 (by decide) ?_
      refine ks_i 3 cx (hl.1.trans hml.symm) (kX1_isIn l D ca pa 0 999) hI wk_497 wk_495 wk_496 wk_3 ⟨by decide, by decide, by decide +kernel⟩ rfl ⟨rfl, rfl⟩ ⟨Nat.le_of_ble_eq_true rfl, Nat.le_of_ble_eq_true rfl⟩ (Nat.le_of_ble_eq_true rfl) dX1_start_14 ⟨Nat.zero_le _, Nat.zero_le _⟩ rfl (fun H locs hI => ?_)
      refine kb_eq (tgt := 24) cx dX1_start_17 (by decide) (fun c_5 => ?_) (fun c_5 => ?_)
      · refine lv_iconst (v := 0) cx.1 cx.2.1 dX1_start_24 (by decide) ?_
        exact k_top (by first | (simp [mStart, c_4, c_5, b2i, kBoth]; done) | (simp [mStart, c_4, b2i, kBoth]; exact fun h => absurd c_5 h)) (hj25 _ _ hI)
      · refine lv_iconst (v := 1) cx.1 cx.2.1 dX1_start_20 (by decide) ?_
        refine lv_goto (tgt := 25) cx.1 cx.2.1 dX1_start_21 (by decide) ?_
        exact k_top (by first | (simp [mStart, c_4, c_5, b2i, kBoth]; done) | (simp [mStart, c_4, b2i, kBoth]; exact fun h => absurd c_5 h)) (hj25 _ _ hI)
set_option maxHeartbeats 4000000 in
set_option maxRecDepth 100000 in
theorem kX1_setPace (l : Launch) (D : va_G) (ca : Nat → ClassId) (ad : Nat → Nat) (v : MS) (ch lag : Int32) : CM l yX1_setPace cX1_setPace 3 none (KR 1 22) D ca (mw ad ca v) [.ref (ad 0), .int ch, .int lag] none (mw ad ca (mPace v ch lag)) := by
  refine CM.of (by decide) (Nat.le_of_ble_eq_true rfl) ?_
  intro p e s m below meth c A ls cx hml hr hlk hI hl
  have hl : lv_has ls 3 [(0, .ref (ad 0)), (1, .int ch), (2, .int lag)] := hl
  refine lv_aload_n cx.1 cx.2.1 dX1_setPace_0 rfl (lv_at hl 0 rfl) ?_
  refine k_join (D := D) (A := A) 26 (mw ad ca v) [.int (mfPace ch lag), .ref (ad 0)] (fun H locs hI => ?_) (fun hj26 => ?_)
  · refine mc_i 1 cx (hl.1.trans hml.symm) (kX1_can l D ca ad v (mfPace ch lag)) hI wk_512 wk_509 wk_511 wq_24 ⟨rfl, by decide +kernel⟩ rfl ⟨rfl, rfl⟩ ⟨Nat.le_of_ble_eq_true rfl, Nat.le_of_ble_eq_true rfl⟩ (Nat.le_of_ble_eq_true rfl) dX1_setPace_26 ⟨Nat.zero_le _, Nat.zero_le _⟩ rfl (fun H locs hI => ?_)
    refine kb_eq (tgt := 42) cx dX1_setPace_29 (by decide) (fun c_1 => ?_) (fun c_1 => ?_)
    · exact ke_v cx hr hlk hI (Nat.zero_le _) (Nat.zero_le _) dX1_setPace_42 rfl (congrArg (mw ad ca) (by simp [mPace, (of_decide_eq_false c_1)]))
    · refine lv_aload_n cx.1 cx.2.1 dX1_setPace_32 rfl (lv_at hl 0 rfl) ?_
      refine lv_iload_n cx.1 cx.2.1 dX1_setPace_33 rfl (lv_at hl 1 rfl) ?_
      refine mp_7 cx hI dX1_setPace_34 (fun H locs hI => ?_)
      refine lv_aload_n cx.1 cx.2.1 dX1_setPace_37 rfl (lv_at hl 0 rfl) ?_
      refine lv_iload_n cx.1 cx.2.1 dX1_setPace_38 rfl (lv_at hl 2 rfl) ?_
      refine mp_8 cx hI dX1_setPace_39 (fun H locs hI => ?_)
      exact ke_v cx hr hlk hI (Nat.zero_le _) (Nat.zero_le _) dX1_setPace_42 rfl (congrArg (mw ad ca) (by simp [mPace, (of_decide_eq_true c_1)]))
  ·
    refine lv_iload_n cx.1 cx.2.1 dX1_setPace_1 rfl (lv_at hl 1 rfl) ?_
    refine lv_iconst (v := 1) cx.1 cx.2.1 dX1_setPace_2 (by decide) ?_
    refine lv_bipush (v := 40) cx.1 cx.2.1 dX1_setPace_3 (by decide) ?_
    refine ks_i 3 cx (hl.1.trans hml.symm) (kX1_isIn l D ca ch 1 40) hI wk_497 wk_495 wk_496 wk_3 ⟨by decide, by decide, by decide +kernel⟩ rfl ⟨rfl, rfl⟩ ⟨Nat.le_of_ble_eq_true rfl, Nat.le_of_ble_eq_true rfl⟩ (Nat.le_of_ble_eq_true rfl) dX1_setPace_5 ⟨Nat.zero_le _, Nat.zero_le _⟩ rfl (fun H locs hI => ?_)
    refine kb_eq (tgt := 25) cx dX1_setPace_8 (by decide) (fun c_2 => ?_) (fun c_2 => ?_)
    · refine lv_iconst (v := 1) cx.1 cx.2.1 dX1_setPace_25 (by decide) ?_
      exact k_top (by first | (simp [mPace, c_2, mfPace]; done) | (simp [mPace, mfPace]; exact fun h => absurd c_2 h)) (hj26 _ _ hI)
    · refine lv_iload_n cx.1 cx.2.1 dX1_setPace_11 rfl (lv_at hl 2 rfl) ?_
      refine lv_iconst (v := 0) cx.1 cx.2.1 dX1_setPace_12 (by decide) ?_
      refine lv_bipush (v := 100) cx.1 cx.2.1 dX1_setPace_13 (by decide) ?_
      refine ks_i 3 cx (hl.1.trans hml.symm) (kX1_isIn l D ca lag 0 100) hI wk_497 wk_495 wk_496 wk_3 ⟨by decide, by decide, by decide +kernel⟩ rfl ⟨rfl, rfl⟩ ⟨Nat.le_of_ble_eq_true rfl, Nat.le_of_ble_eq_true rfl⟩ (Nat.le_of_ble_eq_true rfl) dX1_setPace_15 ⟨Nat.zero_le _, Nat.zero_le _⟩ rfl (fun H locs hI => ?_)
      refine kb_eq (tgt := 25) cx dX1_setPace_18 (by decide) (fun c_3 => ?_) (fun c_3 => ?_)
      · refine lv_iconst (v := 1) cx.1 cx.2.1 dX1_setPace_25 (by decide) ?_
        exact k_top (by first | (simp [mPace, c_2, c_3, mfPace]; done) | (simp [mPace, c_2, mfPace]; exact fun h => absurd c_3 h)) (hj26 _ _ hI)
      · refine lv_iconst (v := 0) cx.1 cx.2.1 dX1_setPace_21 (by decide) ?_
        refine lv_goto (tgt := 26) cx.1 cx.2.1 dX1_setPace_22 (by decide) ?_
        exact k_top (by first | (simp [mPace, c_2, c_3, mfPace]; done) | (simp [mPace, c_2, mfPace]; exact fun h => absurd c_3 h)) (hj26 _ _ hI)
set_option maxHeartbeats 4000000 in
set_option maxRecDepth 100000 in
theorem kX1_plays (l : Launch) (D : va_G) (ca : Nat → ClassId) (ad : Nat → Nat) (v : MS) (many : Int32) (cn r : Nat) (hc : many = nI cn) (hn : mc v = nI (cn + r)) (hn2 : cn + r ≤ 2000) (hN : ∀ j, j < cn → vp_in (mN v (nI j).toNatClampNeg) 40) : CM l yX1_plays cX1_plays 3 none (KR 3 66) D ca (mw ad ca v) [.ref (ad 0), .int many] none (mw ad ca (mPlays v cn r)) := by
  refine CM.of (by decide) (Nat.le_of_ble_eq_true rfl) ?_
  intro p e s m below meth c A ls cx hml hr hlk hI hl
  subst hc
  have hc2 : mc (mPlayL v cn) = nI (cn + r) := (mPlayL_c v cn).trans hn
  have hl : lv_has ls 3 [(0, .ref (ad 0)), (1, .int (nI cn))] := hl
  refine lv_iconst (v := 0) cx.1 cx.2.1 dX1_plays_0 (by decide) ?_
  refine lv_istore_n (lv' := [(2, .int 0), (0, .ref (ad 0)), (1, .int (nI cn))]) cx.1 cx.2.1 dX1_plays_1 rfl hl (by decide) rfl (fun ls hl => ?_)
  refine k_loop cn (fun i => (mw ad ca (mPlayL v i))) (fun i => [(2, .int (nI i)), (1, .int (nI cn)), (0, .ref (ad 0))]) hI (lv_sub hl [0, 2, 1] rfl) (fun H locs ls hI hl => ?_) (fun i hi H locs ls hI hl ih => ?_)
  · have hI : KI D A (mw ad ca (mPlayL v cn)) s.heap H locs := hI
    have hl : lv_has ls 3 [(2, .int (nI cn)), (1, .int (nI cn)), (0, .ref (ad 0))] := hl
    refine lv_iload_n cx.1 cx.2.1 dX1_plays_2 rfl (lv_at hl 0 rfl) ?_
    refine lv_iload_n cx.1 cx.2.1 dX1_plays_3 rfl (lv_at hl 1 rfl) ?_
    refine lv_icmp_ge (tgt := 23) cx.1 cx.2.1 dX1_plays_4 (by decide) (fun _ => ?_) (fun h9 => absurd (Int32.le_refl _) h9)
    refine lv_iload_n cx.1 cx.2.1 dX1_plays_23 rfl (lv_at hl 1 rfl) ?_
    refine lv_istore_n (lv' := [(2, .int (nI cn)), (1, .int (nI cn)), (0, .ref (ad 0))]) cx.1 cx.2.1 dX1_plays_24 rfl hl (by decide) rfl (fun ls hl => ?_)
    refine k_loop r (fun i => (mw ad ca (mShift (mPlayL v cn) cn i))) (fun i => [(2, .int (nI (cn + i))), (1, .int (nI cn)), (0, .ref (ad 0))]) hI (lv_sub hl [0, 1, 2] rfl) (fun H locs ls hI hl => ?_) (fun i hi H locs ls hI hl ih => ?_)
    · have hI : KI D A (mw ad ca (mShift (mPlayL v cn) cn r)) s.heap H locs := hI
      have hl : lv_has ls 3 [(2, .int (nI (cn + r))), (1, .int (nI cn)), (0, .ref (ad 0))] := hl
      refine lv_iload_n cx.1 cx.2.1 dX1_plays_25 rfl (lv_at hl 0 rfl) ?_
      refine lv_aload_n cx.1 cx.2.1 dX1_plays_26 rfl (lv_at hl 2 rfl) ?_
      refine mg_10 cx hI dX1_plays_27 ?_
      refine lv_icmp_ge (tgt := 53) cx.1 cx.2.1 dX1_plays_30 (by decide) (fun _ => ?_) (fun h9 => absurd (show mc (mShift (mPlayL v cn) cn r) ≤ nI (cn + r) by rw [mShift_c, hc2]; exact Int32.le_refl _) h9)
      refine lv_aload_n cx.1 cx.2.1 dX1_plays_53 rfl (lv_at hl 2 rfl) ?_
      refine lv_dup cx.1 cx.2.1 dX1_plays_54 rfl ?_
      refine mg_10 cx hI dX1_plays_55 ?_
      refine lv_iload_n cx.1 cx.2.1 dX1_plays_58 rfl (lv_at hl 1 rfl) ?_
      refine lv_isub cx.1 cx.2.1 dX1_plays_59 ?_
      refine mp_10 cx hI dX1_plays_60 (fun H locs hI => ?_)
      exact ke_v cx hr hlk hI (Nat.zero_le _) (Nat.zero_le _) dX1_plays_63 rfl (congrArg (mw ad ca) (by simp [mPlays]))
    · have hI : KI D A (mw ad ca (mShift (mPlayL v cn) cn i)) s.heap H locs := hI
      have hl : lv_has ls 3 [(2, .int (nI (cn + i))), (1, .int (nI cn)), (0, .ref (ad 0))] := hl
      refine lv_iload_n cx.1 cx.2.1 dX1_plays_25 rfl (lv_at hl 0 rfl) ?_
      refine lv_aload_n cx.1 cx.2.1 dX1_plays_26 rfl (lv_at hl 2 rfl) ?_
      refine mg_10 cx hI dX1_plays_27 ?_
      refine lv_icmp_ge (tgt := 53) cx.1 cx.2.1 dX1_plays_30 (by decide) (fun h9 => absurd h9 (show ¬ mc (mShift (mPlayL v cn) cn i) ≤ nI (cn + i) by rw [mShift_c, hc2]; exact nI_ge (by omega) (by omega))) (fun _ => ?_)
      refine lv_aload_n cx.1 cx.2.1 dX1_plays_33 rfl (lv_at hl 2 rfl) ?_
      refine mg_11 cx hI dX1_plays_34 ?_
      refine lv_iload_n cx.1 cx.2.1 dX1_plays_37 rfl (lv_at hl 0 rfl) ?_
      refine lv_iload_n cx.1 cx.2.1 dX1_plays_38 rfl (lv_at hl 1 rfl) ?_
      refine lv_isub cx.1 cx.2.1 dX1_plays_39 ?_
      refine lv_aload_n cx.1 cx.2.1 dX1_plays_40 rfl (lv_at hl 2 rfl) ?_
      refine mg_11 cx hI dX1_plays_41 ?_
      refine lv_iload_n cx.1 cx.2.1 dX1_plays_44 rfl (lv_at hl 0 rfl) ?_
      refine ma_N cx hI (vp_in_nI (by omega) (by decide)) dX1_plays_45 ?_
      refine ms_N cx hI (by rw [pk_sub (by omega)]; exact vp_in_nI (by omega) (by decide)) dX1_plays_46 (fun H locs hI => ?_)
      refine lv_iinc (v := nI (cn + (i + 1))) (lv' := [(2, .int (nI (cn + (i + 1)))), (1, .int (nI cn)), (0, .ref (ad 0))]) cx.1 cx.2.1 dX1_plays_47 hl (k := 0) rfl (nI_1 (cn + i)) (by decide) rfl (fun ls hl => ?_)
      refine lv_goto (tgt := 25) cx.1 cx.2.1 dX1_plays_50 (by decide) ?_
      refine ih _ _ _ ?_ ?_
      · show KI D A (mw ad ca (mShift (mPlayL v cn) cn (i + 1))) s.heap _ _
        rw [show mShift (mPlayL v cn) cn (i + 1) = mUN (mShift (mPlayL v cn) cn i) (upd (mN (mShift (mPlayL v cn) cn i)) ((nI (cn + i)) - (nI cn)).toNatClampNeg (mN (mShift (mPlayL v cn) cn i) (nI (cn + i)).toNatClampNeg)) from rfl]
        exact hI
      · show lv_has _ _ [(2, .int (nI (cn + (i + 1)))), (1, .int (nI cn)), (0, .ref (ad 0))]
        exact lv_sub hl [0, 1, 2] rfl
  · have hI : KI D A (mw ad ca (mPlayL v i)) s.heap H locs := hI
    have hl : lv_has ls 3 [(2, .int (nI i)), (1, .int (nI cn)), (0, .ref (ad 0))] := hl
    refine lv_iload_n cx.1 cx.2.1 dX1_plays_2 rfl (lv_at hl 0 rfl) ?_
    refine lv_iload_n cx.1 cx.2.1 dX1_plays_3 rfl (lv_at hl 1 rfl) ?_
    refine lv_icmp_ge (tgt := 23) cx.1 cx.2.1 dX1_plays_4 (by decide) (fun h9 => absurd h9 (nI_ge hi (by omega))) (fun _ => ?_)
    refine lv_aload_n cx.1 cx.2.1 dX1_plays_7 rfl (lv_at hl 2 rfl) ?_
    refine lv_aload_n cx.1 cx.2.1 dX1_plays_8 rfl (lv_at hl 2 rfl) ?_
    refine mg_11 cx hI dX1_plays_9 ?_
    refine lv_iload_n cx.1 cx.2.1 dX1_plays_12 rfl (lv_at hl 0 rfl) ?_
    refine ma_N cx hI (vp_in_nI (show i < 2000 by omega) (by decide)) dX1_plays_13 ?_
    refine mc_v 1 cx (hl.1.trans hml.symm) (kX1_brings l D ca ad (mPlayL v i) (mN (mPlayL v i) (nI i).toNatClampNeg) (by rw [mPlayL_N]; exact hN i hi)) hI wk_524 wk_521 wk_523 wq_27 ⟨rfl, by decide +kernel⟩ rfl ⟨rfl, rfl⟩ ⟨Nat.le_of_ble_eq_true rfl, Nat.le_of_ble_eq_true rfl⟩ (Nat.le_of_ble_eq_true rfl) dX1_plays_14 ⟨Nat.zero_le _, Nat.zero_le _⟩ rfl (fun H locs hI => ?_)
    refine lv_iinc (v := nI (i + 1)) (lv' := [(2, .int (nI (i + 1))), (1, .int (nI cn)), (0, .ref (ad 0))]) cx.1 cx.2.1 dX1_plays_17 hl (k := 0) rfl (nI_1 i) (by decide) rfl (fun ls hl => ?_)
    refine lv_goto (tgt := 2) cx.1 cx.2.1 dX1_plays_20 (by decide) ?_
    refine ih _ _ _ ?_ ?_
    · show KI D A (mw ad ca (mPlayL v (i + 1))) s.heap _ _
      rw [show mPlayL v (i + 1) = mBrings (mPlayL v i) (mN (mPlayL v i) (nI i).toNatClampNeg) from rfl]
      exact hI
    · show lv_has _ _ [(2, .int (nI (i + 1))), (1, .int (nI cn)), (0, .ref (ad 0))]
      exact lv_sub hl [0, 1, 2] rfl
set_option maxHeartbeats 4000000 in
set_option maxRecDepth 100000 in
theorem kX1_tick (l : Launch) (D : va_G) (ca : Nat → ClassId) (ad : Nat → Nat) (v : MS) (lag : Int32) (cn r j : Nat) (hmk : mm v = nI j) (hj : ¬ (40 : Int32) ≤ mm v → j + cn ≤ 40) (hc : mMany v = nI cn) (hcn : cn ≤ 40) (hn : (40 : Int32) ≤ mm v → mc v = nI (cn + r)) (hn2 : cn + r ≤ 2000) (hN : (40 : Int32) ≤ mm v → ∀ j, j < cn → vp_in (mN v (nI j).toNatClampNeg) 40) : CM l yX1_tick cX1_tick 5 (some .int) (KR 4 88) D ca (mw ad ca v) [.ref (ad 0), .int lag] (some (.int (if mfTick v lag = 0 then (if lag ≤ ml v then mMany v else 0) else 0))) (mw ad ca (mTick v lag cn r)) := by
  refine CM.of (by decide) (Nat.le_of_ble_eq_true rfl) ?_
  intro p e s m below meth c A ls cx hml hr hlk hI hl
  have hl : lv_has ls 5 [(0, .ref (ad 0)), (1, .int lag)] := hl
  refine lv_aload_n cx.1 cx.2.1 dX1_tick_0 rfl (lv_at hl 0 rfl) ?_
  refine k_join (D := D) (A := A) 29 (mw ad ca v) [.int (mfTick v lag), .ref (ad 0)] (fun H locs hI => ?_) (fun hj29 => ?_)
  · refine mc_i 1 cx (hl.1.trans hml.symm) (kX1_can l D ca ad v (mfTick v lag)) hI wk_512 wk_509 wk_511 wq_24 ⟨rfl, by decide +kernel⟩ rfl ⟨rfl, rfl⟩ ⟨Nat.le_of_ble_eq_true rfl, Nat.le_of_ble_eq_true rfl⟩ (Nat.le_of_ble_eq_true rfl) dX1_tick_29 ⟨Nat.zero_le _, Nat.zero_le _⟩ rfl (fun H locs hI => ?_)
    refine kb_ne (tgt := 37) cx dX1_tick_32 (by decide) (fun c_1 => ?_) (fun c_1 => ?_)
    · refine lv_iload_n cx.1 cx.2.1 dX1_tick_37 rfl (lv_at hl 1 rfl) ?_
      refine lv_aload_n cx.1 cx.2.1 dX1_tick_38 rfl (lv_at hl 0 rfl) ?_
      refine mg_8 cx hI dX1_tick_39 ?_
      refine k_top (y := ml v) rfl ?_
      refine lv_icmp_le (tgt := 47) cx.1 cx.2.1 dX1_tick_42 (by decide) (fun c_2 => ?_) (fun c_2 => ?_)
      · refine k_join (D := D) (A := A) 70 (mw ad ca (mUz v (mfTick v lag))) [.int (mLeft v)] (fun H locs hI => ?_) (fun hj70 => ?_)
        · refine lv_istore_n (lv' := [(2, .int (mLeft v)), (0, .ref (ad 0)), (1, .int lag)]) cx.1 cx.2.1 dX1_tick_70 rfl hl (by decide) rfl (fun ls hl => ?_)
          refine k_join (D := D) (A := A) 87 (mw ad ca (mUz v (mfTick v lag))) [.int (mMany v)] (fun H locs hI => ?_) (fun hj87 => ?_)
          · refine lv_istore_n (lv' := [(3, .int (mMany v)), (2, .int (mLeft v)), (0, .ref (ad 0)), (1, .int lag)]) cx.1 cx.2.1 dX1_tick_87 rfl hl (by decide) rfl (fun ls hl => ?_)
            refine lv_aload_n cx.1 cx.2.1 dX1_tick_88 rfl (lv_at hl 2 rfl) ?_
            refine mg_9 cx hI dX1_tick_89 ?_
            refine k_top (y := mm v) rfl ?_
            refine lv_bipush (v := 40) cx.1 cx.2.1 dX1_tick_92 (by decide) ?_
            refine lv_icmp_ge (tgt := 133) cx.1 cx.2.1 dX1_tick_94 (by decide) (fun c_3 => ?_) (fun c_3 => ?_)
            · have c_MM := c_3
              refine lv_aload_n cx.1 cx.2.1 dX1_tick_133 rfl (lv_at hl 2 rfl) ?_
              refine lv_iload_n cx.1 cx.2.1 dX1_tick_134 rfl (lv_at hl 0 rfl) ?_
              refine mc_v 1 cx (hl.1.trans hml.symm) (kX1_plays l D ca ad (mUz v (mfTick v lag)) (mMany v) cn r hc (hn c_MM) hn2 (hN c_MM)) hI wk_563 wk_560 wk_562 wq_30 ⟨rfl, by decide +kernel⟩ rfl ⟨rfl, rfl⟩ ⟨Nat.le_of_ble_eq_true rfl, Nat.le_of_ble_eq_true rfl⟩ (Nat.le_of_ble_eq_true rfl) dX1_tick_135 ⟨Nat.zero_le _, Nat.zero_le _⟩ rfl (fun H locs hI => ?_)
              refine lv_iload_n cx.1 cx.2.1 dX1_tick_138 rfl (lv_at hl 0 rfl) ?_
              exact ke_i cx hr hlk hI (Nat.zero_le _) (Nat.zero_le _) dX1_tick_139 (congrArg (fun z => some (Value.int z)) (by simp [mTick, hc.symm, (of_decide_eq_true c_1), c_2, c_3])) (congrArg (mw ad ca) (by simp [mTick, hc.symm, (of_decide_eq_true c_1), c_2, c_3]))
            · have c_NM := c_3
              refine lv_iconst (v := 0) cx.1 cx.2.1 dX1_tick_97 (by decide) ?_
              refine lv_istore (lv' := [(4, .int 0), (3, .int (mMany v)), (2, .int (mLeft v)), (0, .ref (ad 0)), (1, .int lag)]) cx.1 cx.2.1 dX1_tick_98 hl (by decide) rfl (fun ls hl => ?_)
              refine k_loop cn (fun i => (mw ad ca (mTickL (mUz v (mfTick v lag)) i))) (fun i => [(4, .int (nI i)), (3, .int (nI cn)), (0, .ref (ad 0))]) hI (by show lv_has _ _ [(4, .int (nI 0)), (3, .int (nI cn)), (0, .ref (ad 0))]; rw [← hc]; exact lv_sub hl [0, 1, 3] rfl) (fun H locs ls hI hl => ?_) (fun i hi H locs ls hI hl ih => ?_)
              · have hI : KI D A (mw ad ca (mTickL (mUz v (mfTick v lag)) cn)) s.heap H locs := hI
                have hl : lv_has ls 5 [(4, .int (nI cn)), (3, .int (nI cn)), (0, .ref (ad 0))] := hl
                refine lv_iload cx.1 cx.2.1 dX1_tick_100 (lv_at hl 0 rfl) ?_
                refine lv_iload_n cx.1 cx.2.1 dX1_tick_102 rfl (lv_at hl 1 rfl) ?_
                refine lv_icmp_ge (tgt := 130) cx.1 cx.2.1 dX1_tick_103 (by decide) (fun _ => ?_) (fun h9 => absurd (Int32.le_refl _) h9)
                refine lv_goto (tgt := 138) cx.1 cx.2.1 dX1_tick_130 (by decide) ?_
                refine lv_iload_n cx.1 cx.2.1 dX1_tick_138 rfl (lv_at hl 1 rfl) ?_
                exact ke_i cx hr hlk hI (Nat.zero_le _) (Nat.zero_le _) dX1_tick_139 (congrArg (fun z => some (Value.int z)) (by simp [mTick, hc.symm, (of_decide_eq_true c_1), c_2, c_3])) (congrArg (mw ad ca) (by simp [mTick, hc.symm, (of_decide_eq_true c_1), c_2, c_3]))
              · have hI : KI D A (mw ad ca (mTickL (mUz v (mfTick v lag)) i)) s.heap H locs := hI
                have hl : lv_has ls 5 [(4, .int (nI i)), (3, .int (nI cn)), (0, .ref (ad 0))] := hl
                refine lv_iload cx.1 cx.2.1 dX1_tick_100 (lv_at hl 0 rfl) ?_
                refine lv_iload_n cx.1 cx.2.1 dX1_tick_102 rfl (lv_at hl 1 rfl) ?_
                refine lv_icmp_ge (tgt := 130) cx.1 cx.2.1 dX1_tick_103 (by decide) (fun h9 => absurd h9 (nI_ge hi (by omega))) (fun _ => ?_)
                refine lv_aload_n cx.1 cx.2.1 dX1_tick_106 rfl (lv_at hl 2 rfl) ?_
                refine lv_aload_n cx.1 cx.2.1 dX1_tick_107 rfl (lv_at hl 2 rfl) ?_
                refine mg_9 cx hI dX1_tick_108 ?_
                refine mc_v 1 cx (hl.1.trans hml.symm) (kX1_brings l D ca ad (mTickL (mUz v (mfTick v lag)) i) (mm (mTickL (mUz v (mfTick v lag)) i)) (by rw [mTickL_m (v := mUz v (mfTick v lag)) hmk]; exact vp_in_nI (by have := hj c_NM; omega) (by decide))) hI wk_524 wk_521 wk_523 wq_27 ⟨rfl, by decide +kernel⟩ rfl ⟨rfl, rfl⟩ ⟨Nat.le_of_ble_eq_true rfl, Nat.le_of_ble_eq_true rfl⟩ (Nat.le_of_ble_eq_true rfl) dX1_tick_111 ⟨Nat.zero_le _, Nat.zero_le _⟩ rfl (fun H locs hI => ?_)
                refine lv_aload_n cx.1 cx.2.1 dX1_tick_114 rfl (lv_at hl 2 rfl) ?_
                refine lv_dup cx.1 cx.2.1 dX1_tick_115 rfl ?_
                refine mg_9 cx hI dX1_tick_116 ?_
                refine lv_iconst (v := 1) cx.1 cx.2.1 dX1_tick_119 (by decide) ?_
                refine lv_iadd cx.1 cx.2.1 dX1_tick_120 ?_
                refine mp_9 cx hI dX1_tick_121 (fun H locs hI => ?_)
                refine lv_iinc (v := nI (i + 1)) (lv' := [(4, .int (nI (i + 1))), (3, .int (nI cn)), (0, .ref (ad 0))]) cx.1 cx.2.1 dX1_tick_124 hl (k := 0) rfl (nI_1 i) (by decide) rfl (fun ls hl => ?_)
                refine lv_goto (tgt := 100) cx.1 cx.2.1 dX1_tick_127 (by decide) ?_
                refine ih _ _ _ ?_ ?_
                · show KI D A (mw ad ca (mTickL (mUz v (mfTick v lag)) (i + 1))) s.heap _ _
                  rw [show mTickL (mUz v (mfTick v lag)) (i + 1) = mUm (mBrings (mTickL (mUz v (mfTick v lag)) i) (mm (mTickL (mUz v (mfTick v lag)) i))) ((mm (mBrings (mTickL (mUz v (mfTick v lag)) i) (mm (mTickL (mUz v (mfTick v lag)) i)))) + 1) from rfl]
                  exact hI
                · show lv_has _ _ [(4, .int (nI (i + 1))), (3, .int (nI cn)), (0, .ref (ad 0))]
                  exact lv_sub hl [0, 1, 2] rfl
          ·
            refine lv_iload_n cx.1 cx.2.1 dX1_tick_71 rfl (lv_at hl 0 rfl) ?_
            refine lv_aload_n cx.1 cx.2.1 dX1_tick_72 rfl (lv_at hl 1 rfl) ?_
            refine mg_7 cx hI dX1_tick_73 ?_
            refine k_top (y := mk v) rfl ?_
            refine lv_icmp_ge (tgt := 83) cx.1 cx.2.1 dX1_tick_76 (by decide) (fun c_6 => ?_) (fun c_6 => ?_)
            · refine lv_aload_n cx.1 cx.2.1 dX1_tick_83 rfl (lv_at hl 1 rfl) ?_
              refine mg_7 cx hI dX1_tick_84 ?_
              refine k_top (y := mk v) rfl ?_
              exact k_top (by first | (simp [mTick, hc.symm, (of_decide_eq_true c_1), c_2, c_6, mMany]; done) | (simp [mTick, hc.symm, (of_decide_eq_true c_1), c_2, mMany]; exact fun h => absurd c_6 h)) (hj87 _ _ hI)
            · refine lv_iload_n cx.1 cx.2.1 dX1_tick_79 rfl (lv_at hl 0 rfl) ?_
              refine lv_goto (tgt := 87) cx.1 cx.2.1 dX1_tick_80 (by decide) ?_
              exact k_top (by first | (simp [mTick, hc.symm, (of_decide_eq_true c_1), c_2, c_6, mMany]; done) | (simp [mTick, hc.symm, (of_decide_eq_true c_1), c_2, mMany]; exact fun h => absurd c_6 h)) (hj87 _ _ hI)
        ·
          refine lv_aload_n cx.1 cx.2.1 dX1_tick_47 rfl (lv_at hl 0 rfl) ?_
          refine mg_9 cx hI dX1_tick_48 ?_
          refine k_top (y := mm v) rfl ?_
          refine lv_bipush (v := 40) cx.1 cx.2.1 dX1_tick_51 (by decide) ?_
          refine lv_icmp_ge (tgt := 66) cx.1 cx.2.1 dX1_tick_53 (by decide) (fun c_7 => ?_) (fun c_7 => ?_)
          · refine lv_aload_n cx.1 cx.2.1 dX1_tick_66 rfl (lv_at hl 0 rfl) ?_
            refine mg_10 cx hI dX1_tick_67 ?_
            refine k_top (y := mc v) rfl ?_
            exact k_top (by first | (simp [mTick, hc.symm, (of_decide_eq_true c_1), c_2, c_7, mLeft]; done) | (simp [mTick, hc.symm, (of_decide_eq_true c_1), c_2, mLeft]; exact fun h => absurd c_7 h)) (hj70 _ _ hI)
          · refine lv_bipush (v := 40) cx.1 cx.2.1 dX1_tick_56 (by decide) ?_
            refine lv_aload_n cx.1 cx.2.1 dX1_tick_58 rfl (lv_at hl 0 rfl) ?_
            refine mg_9 cx hI dX1_tick_59 ?_
            refine k_top (y := mm v) rfl ?_
            refine lv_isub cx.1 cx.2.1 dX1_tick_62 ?_
            refine lv_goto (tgt := 70) cx.1 cx.2.1 dX1_tick_63 (by decide) ?_
            exact k_top (by first | (simp [mTick, hc.symm, (of_decide_eq_true c_1), c_2, c_7, mLeft]; done) | (simp [mTick, hc.symm, (of_decide_eq_true c_1), c_2, mLeft]; exact fun h => absurd c_7 h)) (hj70 _ _ hI)
      · refine lv_iconst (v := 0) cx.1 cx.2.1 dX1_tick_45 (by decide) ?_
        exact ke_i cx hr hlk hI (Nat.zero_le _) (Nat.zero_le _) dX1_tick_46 (congrArg (fun z => some (Value.int z)) (by simp [mTick, hc.symm, (of_decide_eq_true c_1), c_2])) (congrArg (mw ad ca) (by simp [mTick, hc.symm, (of_decide_eq_true c_1), c_2]))
    · refine lv_iconst (v := 0) cx.1 cx.2.1 dX1_tick_35 (by decide) ?_
      exact ke_i cx hr hlk hI (Nat.zero_le _) (Nat.zero_le _) dX1_tick_36 (congrArg (fun z => some (Value.int z)) (by simp [mTick, hc.symm, (of_decide_eq_false c_1)])) (congrArg (mw ad ca) (by simp [mTick, hc.symm, (of_decide_eq_false c_1)]))
  ·
    refine lv_iload_n cx.1 cx.2.1 dX1_tick_1 rfl (lv_at hl 1 rfl) ?_
    refine lv_iconst (v := 0) cx.1 cx.2.1 dX1_tick_2 (by decide) ?_
    refine lv_sipush (v := 1000) cx.1 cx.2.1 dX1_tick_3 (by decide) ?_
    refine ks_i 3 cx (hl.1.trans hml.symm) (kX1_isIn l D ca lag 0 1000) hI wk_497 wk_495 wk_496 wk_3 ⟨by decide, by decide, by decide +kernel⟩ rfl ⟨rfl, rfl⟩ ⟨Nat.le_of_ble_eq_true rfl, Nat.le_of_ble_eq_true rfl⟩ (Nat.le_of_ble_eq_true rfl) dX1_tick_6 ⟨Nat.zero_le _, Nat.zero_le _⟩ rfl (fun H locs hI => ?_)
    refine kb_ne (tgt := 16) cx dX1_tick_9 (by decide) (fun c_8 => ?_) (fun c_8 => ?_)
    · refine lv_aload_n cx.1 cx.2.1 dX1_tick_16 rfl (lv_at hl 0 rfl) ?_
      refine mg_4 cx hI dX1_tick_17 ?_
      refine lv_iconst (v := 1) cx.1 cx.2.1 dX1_tick_20 (by decide) ?_
      refine lv_icmp_ne (tgt := 28) cx.1 cx.2.1 dX1_tick_21 (by decide) (fun c_9 => ?_) (fun c_9 => ?_)
      · refine lv_iconst (v := 2) cx.1 cx.2.1 dX1_tick_28 (by decide) ?_
        exact k_top (by first | (simp [mTick, hc.symm, c_8, c_9, mfTick]; done) | (simp [mTick, hc.symm, c_8, mfTick]; exact fun h => absurd c_9 h)) (hj29 _ _ hI)
      · refine lv_iconst (v := 0) cx.1 cx.2.1 dX1_tick_24 (by decide) ?_
        refine lv_goto (tgt := 29) cx.1 cx.2.1 dX1_tick_25 (by decide) ?_
        exact k_top (by first | (simp [mTick, hc.symm, c_8, c_9, mfTick]; done) | (simp [mTick, hc.symm, c_8, mfTick]; exact fun h => absurd c_9 h)) (hj29 _ _ hI)
    · refine lv_iconst (v := 1) cx.1 cx.2.1 dX1_tick_12 (by decide) ?_
      refine lv_goto (tgt := 29) cx.1 cx.2.1 dX1_tick_13 (by decide) ?_
      exact k_top (by first | (simp [mTick, hc.symm, c_8, mfTick]; done) | (simp [mTick, hc.symm, mfTick]; exact fun h => absurd c_8 h)) (hj29 _ _ hI)
set_option maxHeartbeats 4000000 in
set_option maxRecDepth 100000 in
theorem kX1_cutOver (l : Launch) (D : va_G) (ca : Nat → ClassId) (ad : Nat → Nat) (v : MS) (most : Int32) (nn : Nat) (hn : mc v = nI nn) (hn2 : nn ≤ 2000) (hN : ∀ j, j < nn → vp_in (mN v (nI j).toNatClampNeg) 40) : CM l yX1_cutOver cX1_cutOver 3 (some .int) (KR 4 88) D ca (mw ad ca v) [.ref (ad 0), .int most] (some (.int (if mfCut v most = 0 then mc v else 0))) (mw ad ca (mCut v most nn)) := by
  refine CM.of (by decide) (Nat.le_of_ble_eq_true rfl) ?_
  intro p e s m below meth c A ls cx hml hr hlk hI hl
  have hl : lv_has ls 3 [(0, .ref (ad 0)), (1, .int most)] := hl
  refine lv_aload_n cx.1 cx.2.1 dX1_cutOver_0 rfl (lv_at hl 0 rfl) ?_
  refine k_join (D := D) (A := A) 46 (mw ad ca v) [.int (mfCut v most), .ref (ad 0)] (fun H locs hI => ?_) (fun hj46 => ?_)
  · refine mc_i 1 cx (hl.1.trans hml.symm) (kX1_can l D ca ad v (mfCut v most)) hI wk_512 wk_509 wk_511 wq_24 ⟨rfl, by decide +kernel⟩ rfl ⟨rfl, rfl⟩ ⟨Nat.le_of_ble_eq_true rfl, Nat.le_of_ble_eq_true rfl⟩ (Nat.le_of_ble_eq_true rfl) dX1_cutOver_46 ⟨Nat.zero_le _, Nat.zero_le _⟩ rfl (fun H locs hI => ?_)
    refine kb_ne (tgt := 54) cx dX1_cutOver_49 (by decide) (fun c_1 => ?_) (fun c_1 => ?_)
    · refine lv_aload_n cx.1 cx.2.1 dX1_cutOver_54 rfl (lv_at hl 0 rfl) ?_
      refine mg_10 cx hI dX1_cutOver_55 ?_
      refine k_top (y := mc v) rfl ?_
      refine k_top (y := mc v) rfl ?_
      refine lv_istore_n (lv' := [(2, .int (mc v)), (0, .ref (ad 0)), (1, .int most)]) cx.1 cx.2.1 dX1_cutOver_58 rfl hl (by decide) rfl (fun ls hl => ?_)
      refine lv_aload_n cx.1 cx.2.1 dX1_cutOver_59 rfl (lv_at hl 1 rfl) ?_
      refine lv_iload_n cx.1 cx.2.1 dX1_cutOver_60 rfl (lv_at hl 0 rfl) ?_
      refine mc_v 1 cx (hl.1.trans hml.symm) (kX1_plays l D ca ad (mUz v (mfCut v most)) (mc v) nn 0 hn hn hn2 hN) hI wk_563 wk_560 wk_562 wq_30 ⟨rfl, by decide +kernel⟩ rfl ⟨rfl, rfl⟩ ⟨Nat.le_of_ble_eq_true rfl, Nat.le_of_ble_eq_true rfl⟩ (Nat.le_of_ble_eq_true rfl) dX1_cutOver_61 ⟨Nat.zero_le _, Nat.zero_le _⟩ rfl (fun H locs hI => ?_)
      refine lv_aload_n cx.1 cx.2.1 dX1_cutOver_64 rfl (lv_at hl 1 rfl) ?_
      refine lv_iconst (v := 2) cx.1 cx.2.1 dX1_cutOver_65 (by decide) ?_
      refine mp_4 cx hI dX1_cutOver_66 (fun H locs hI => ?_)
      refine lv_iload_n cx.1 cx.2.1 dX1_cutOver_69 rfl (lv_at hl 0 rfl) ?_
      exact ke_i cx hr hlk hI (Nat.zero_le _) (Nat.zero_le _) dX1_cutOver_70 (congrArg (fun z => some (Value.int z)) (by simp [mCut, (of_decide_eq_true c_1)])) (congrArg (mw ad ca) (by simp [mCut, (of_decide_eq_true c_1)]))
    · refine lv_iconst (v := 0) cx.1 cx.2.1 dX1_cutOver_52 (by decide) ?_
      exact ke_i cx hr hlk hI (Nat.zero_le _) (Nat.zero_le _) dX1_cutOver_53 (congrArg (fun z => some (Value.int z)) (by simp [mCut, (of_decide_eq_false c_1)])) (congrArg (mw ad ca) (by simp [mCut, (of_decide_eq_false c_1)]))
  ·
    refine lv_iload_n cx.1 cx.2.1 dX1_cutOver_1 rfl (lv_at hl 1 rfl) ?_
    refine lv_iconst (v := 0) cx.1 cx.2.1 dX1_cutOver_2 (by decide) ?_
    refine lv_sipush (v := 1000) cx.1 cx.2.1 dX1_cutOver_3 (by decide) ?_
    refine ks_i 3 cx (hl.1.trans hml.symm) (kX1_isIn l D ca most 0 1000) hI wk_497 wk_495 wk_496 wk_3 ⟨by decide, by decide, by decide +kernel⟩ rfl ⟨rfl, rfl⟩ ⟨Nat.le_of_ble_eq_true rfl, Nat.le_of_ble_eq_true rfl⟩ (Nat.le_of_ble_eq_true rfl) dX1_cutOver_6 ⟨Nat.zero_le _, Nat.zero_le _⟩ rfl (fun H locs hI => ?_)
    refine kb_ne (tgt := 16) cx dX1_cutOver_9 (by decide) (fun c_2 => ?_) (fun c_2 => ?_)
    · refine lv_aload_n cx.1 cx.2.1 dX1_cutOver_16 rfl (lv_at hl 0 rfl) ?_
      refine mg_4 cx hI dX1_cutOver_17 ?_
      refine lv_iconst (v := 1) cx.1 cx.2.1 dX1_cutOver_20 (by decide) ?_
      refine lv_icmp_ne (tgt := 41) cx.1 cx.2.1 dX1_cutOver_21 (by decide) (fun c_3 => ?_) (fun c_3 => ?_)
      · refine lv_iconst (v := 2) cx.1 cx.2.1 dX1_cutOver_41 (by decide) ?_
        refine lv_goto (tgt := 46) cx.1 cx.2.1 dX1_cutOver_42 (by decide) ?_
        exact k_top (by first | (simp [mCut, c_2, c_3, mfCut]; done) | (simp [mCut, c_2, mfCut]; exact fun h => absurd c_3 h)) (hj46 _ _ hI)
      · refine lv_aload_n cx.1 cx.2.1 dX1_cutOver_24 rfl (lv_at hl 0 rfl) ?_
        refine mg_9 cx hI dX1_cutOver_25 ?_
        refine lv_bipush (v := 40) cx.1 cx.2.1 dX1_cutOver_28 (by decide) ?_
        refine lv_icmp_lt (tgt := 41) cx.1 cx.2.1 dX1_cutOver_30 (by decide) (fun c_4 => ?_) (fun c_4 => ?_)
        · refine lv_iconst (v := 2) cx.1 cx.2.1 dX1_cutOver_41 (by decide) ?_
          refine lv_goto (tgt := 46) cx.1 cx.2.1 dX1_cutOver_42 (by decide) ?_
          exact k_top (by first | (simp [mCut, c_2, c_3, c_4, mfCut]; done) | (simp [mCut, c_2, c_3, mfCut]; exact fun h => absurd c_4 h)) (hj46 _ _ hI)
        · refine lv_aload_n cx.1 cx.2.1 dX1_cutOver_33 rfl (lv_at hl 0 rfl) ?_
          refine mg_10 cx hI dX1_cutOver_34 ?_
          refine lv_iload_n cx.1 cx.2.1 dX1_cutOver_37 rfl (lv_at hl 1 rfl) ?_
          refine lv_icmp_le (tgt := 45) cx.1 cx.2.1 dX1_cutOver_38 (by decide) (fun c_5 => ?_) (fun c_5 => ?_)
          · refine lv_iconst (v := 0) cx.1 cx.2.1 dX1_cutOver_45 (by decide) ?_
            exact k_top (by first | (simp [mCut, c_2, c_3, c_4, c_5, mfCut]; done) | (simp [mCut, c_2, c_3, c_4, mfCut]; exact fun h => absurd c_5 h)) (hj46 _ _ hI)
          · refine lv_iconst (v := 2) cx.1 cx.2.1 dX1_cutOver_41 (by decide) ?_
            refine lv_goto (tgt := 46) cx.1 cx.2.1 dX1_cutOver_42 (by decide) ?_
            exact k_top (by first | (simp [mCut, c_2, c_3, c_4, c_5, mfCut]; done) | (simp [mCut, c_2, c_3, c_4, mfCut]; exact fun h => absurd c_5 h)) (hj46 _ _ hI)
    · refine lv_iconst (v := 1) cx.1 cx.2.1 dX1_cutOver_12 (by decide) ?_
      refine lv_goto (tgt := 46) cx.1 cx.2.1 dX1_cutOver_13 (by decide) ?_
      exact k_top (by first | (simp [mCut, c_2, mfCut]; done) | (simp [mCut, mfCut]; exact fun h => absurd c_2 h)) (hj46 _ _ hI)
set_option maxHeartbeats 4000000 in
set_option maxRecDepth 100000 in
theorem kX1_undo (l : Launch) (D : va_G) (ca : Nat → ClassId) (ad : Nat → Nat) (v : MS) : CM l yX1_undo cX1_undo 1 none (KR 1 21) D ca (mw ad ca v) [.ref (ad 0)] none (mw ad ca (mUndo v)) := by
  refine CM.of (by decide) (Nat.le_of_ble_eq_true rfl) ?_
  intro p e s m below meth c A ls cx hml hr hlk hI hl
  have hl : lv_has ls 1 [(0, .ref (ad 0))] := hl
  refine lv_aload_n cx.1 cx.2.1 dX1_undo_0 rfl (lv_at hl 0 rfl) ?_
  refine k_join (D := D) (A := A) 14 (mw ad ca v) [.int (mfUndo v), .ref (ad 0)] (fun H locs hI => ?_) (fun hj14 => ?_)
  · refine mc_i 1 cx (hl.1.trans hml.symm) (kX1_can l D ca ad v (mfUndo v)) hI wk_512 wk_509 wk_511 wq_24 ⟨rfl, by decide +kernel⟩ rfl ⟨rfl, rfl⟩ ⟨Nat.le_of_ble_eq_true rfl, Nat.le_of_ble_eq_true rfl⟩ (Nat.le_of_ble_eq_true rfl) dX1_undo_14 ⟨Nat.zero_le _, Nat.zero_le _⟩ rfl (fun H locs hI => ?_)
    refine kb_eq (tgt := 25) cx dX1_undo_17 (by decide) (fun c_1 => ?_) (fun c_1 => ?_)
    · exact ke_v cx hr hlk hI (Nat.zero_le _) (Nat.zero_le _) dX1_undo_25 rfl (congrArg (mw ad ca) (by simp [mUndo, (of_decide_eq_false c_1)]))
    · refine lv_aload_n cx.1 cx.2.1 dX1_undo_20 rfl (lv_at hl 0 rfl) ?_
      refine lv_iconst (v := 1) cx.1 cx.2.1 dX1_undo_21 (by decide) ?_
      refine mp_4 cx hI dX1_undo_22 (fun H locs hI => ?_)
      exact ke_v cx hr hlk hI (Nat.zero_le _) (Nat.zero_le _) dX1_undo_25 rfl (congrArg (mw ad ca) (by simp [mUndo, (of_decide_eq_true c_1)]))
  ·
    refine lv_aload_n cx.1 cx.2.1 dX1_undo_1 rfl (lv_at hl 0 rfl) ?_
    refine mg_4 cx hI dX1_undo_2 ?_
    refine lv_iconst (v := 2) cx.1 cx.2.1 dX1_undo_5 (by decide) ?_
    refine lv_icmp_ne (tgt := 13) cx.1 cx.2.1 dX1_undo_6 (by decide) (fun c_2 => ?_) (fun c_2 => ?_)
    · refine lv_iconst (v := 1) cx.1 cx.2.1 dX1_undo_13 (by decide) ?_
      exact k_top (by first | (simp [mUndo, c_2, mfUndo]; done) | (simp [mUndo, mfUndo]; exact fun h => absurd c_2 h)) (hj14 _ _ hI)
    · refine lv_iconst (v := 0) cx.1 cx.2.1 dX1_undo_9 (by decide) ?_
      refine lv_goto (tgt := 14) cx.1 cx.2.1 dX1_undo_10 (by decide) ?_
      exact k_top (by first | (simp [mUndo, c_2, mfUndo]; done) | (simp [mUndo, mfUndo]; exact fun h => absurd c_2 h)) (hj14 _ _ hI)
set_option maxHeartbeats 4000000 in
set_option maxRecDepth 100000 in
theorem kX1_shadowed (l : Launch) (D : va_G) (ca : Nat → ClassId) (ad : Nat → Nat) (v : MS) : CM l yX1_shadowed cX1_shadowed 3 (some .int) (KR 0 0) D ca (mw ad ca v) [.ref (ad 0)] (some (.int (mShd v 40))) (mw ad ca v) := by
  refine CM.of (by decide) (Nat.le_of_ble_eq_true rfl) ?_
  intro p e s m below meth c A ls cx hml hr hlk hI hl
  have hl : lv_has ls 3 [(0, .ref (ad 0))] := hl
  refine lv_iconst (v := 0) cx.1 cx.2.1 dX1_shadowed_0 (by decide) ?_
  refine lv_istore_n (lv' := [(1, .int 0), (0, .ref (ad 0))]) cx.1 cx.2.1 dX1_shadowed_1 rfl hl (by decide) rfl (fun ls hl => ?_)
  refine lv_iconst (v := 0) cx.1 cx.2.1 dX1_shadowed_2 (by decide) ?_
  refine lv_istore_n (lv' := [(2, .int 0), (1, .int 0), (0, .ref (ad 0))]) cx.1 cx.2.1 dX1_shadowed_3 rfl hl (by decide) rfl (fun ls hl => ?_)
  refine k_loop 40 (fun i => (mw ad ca v)) (fun i => [(2, .int (nI i)), (1, .int (mShd v i)), (0, .ref (ad 0))]) hI (lv_sub hl [0, 1, 2] rfl) (fun H locs ls hI hl => ?_) (fun i hi H locs ls hI hl ih => ?_)
  · have hI : KI D A (mw ad ca v) s.heap H locs := hI
    have hl : lv_has ls 3 [(2, .int (nI 40)), (1, .int (mShd v 40)), (0, .ref (ad 0))] := hl
    refine lv_iload_n cx.1 cx.2.1 dX1_shadowed_4 rfl (lv_at hl 0 rfl) ?_
    refine lv_bipush (v := 40) cx.1 cx.2.1 dX1_shadowed_5 (by decide) ?_
    refine lv_icmp_ge (tgt := 33) cx.1 cx.2.1 dX1_shadowed_7 (by decide) (fun _ => ?_) (fun h9 => absurd (by decide : (40 : Int32) ≤ nI 40) h9)
    refine lv_iload_n cx.1 cx.2.1 dX1_shadowed_33 rfl (lv_at hl 1 rfl) ?_
    exact ke_i cx hr hlk hI (Nat.zero_le _) (Nat.zero_le _) dX1_shadowed_34 rfl rfl
  · have hI : KI D A (mw ad ca v) s.heap H locs := hI
    have hl : lv_has ls 3 [(2, .int (nI i)), (1, .int (mShd v i)), (0, .ref (ad 0))] := hl
    refine lv_iload_n cx.1 cx.2.1 dX1_shadowed_4 rfl (lv_at hl 0 rfl) ?_
    refine lv_bipush (v := 40) cx.1 cx.2.1 dX1_shadowed_5 (by decide) ?_
    refine lv_icmp_ge (tgt := 33) cx.1 cx.2.1 dX1_shadowed_7 (by decide) (fun h9 => absurd h9 (nI_ge hi (by decide))) (fun _ => ?_)
    refine lv_iload_n cx.1 cx.2.1 dX1_shadowed_10 rfl (lv_at hl 1 rfl) ?_
    refine lv_aload_n cx.1 cx.2.1 dX1_shadowed_11 rfl (lv_at hl 2 rfl) ?_
    refine mg_2 cx hI dX1_shadowed_12 ?_
    refine lv_iload_n cx.1 cx.2.1 dX1_shadowed_15 rfl (lv_at hl 0 rfl) ?_
    refine ma_H cx hI (vp_in_nI hi (by decide)) dX1_shadowed_16 ?_
    refine k_join (D := D) (A := A) 25 (mw ad ca v) [.int (b2i (!decide (mH v (nI i).toNatClampNeg = 0))), .int (mShd v i)] (fun H locs hI => ?_) (fun hj25 => ?_)
    · refine lv_iadd cx.1 cx.2.1 dX1_shadowed_25 ?_
      refine lv_istore_n (lv' := [(1, .int ((mShd v i) + (b2i (!decide (mH v (nI i).toNatClampNeg = 0))))), (2, .int (nI i)), (0, .ref (ad 0))]) cx.1 cx.2.1 dX1_shadowed_26 rfl hl (by decide) rfl (fun ls hl => ?_)
      refine lv_iinc (v := nI (i + 1)) (lv' := [(2, .int (nI (i + 1))), (1, .int ((mShd v i) + (b2i (!decide (mH v (nI i).toNatClampNeg = 0))))), (0, .ref (ad 0))]) cx.1 cx.2.1 dX1_shadowed_27 hl (k := 1) rfl (nI_1 i) (by decide) rfl (fun ls hl => ?_)
      refine lv_goto (tgt := 4) cx.1 cx.2.1 dX1_shadowed_30 (by decide) ?_
      refine ih _ _ _ ?_ ?_
      · show KI D A (mw ad ca v) s.heap _ _
        exact hI
      · show lv_has _ _ [(2, .int (nI (i + 1))), (1, .int (mShd v (i + 1))), (0, .ref (ad 0))]
        rw [show mShd v (i + 1) = (mShd v i) + (b2i (!decide (mH v (nI i).toNatClampNeg = 0))) from (by simp [mShd, kSum])]
        exact lv_sub hl [0, 1, 2] rfl
    ·
      refine lv_if_eq (tgt := 24) cx.1 cx.2.1 dX1_shadowed_17 (by decide) (fun c_3 => ?_) (fun c_3 => ?_)
      · refine lv_iconst (v := 0) cx.1 cx.2.1 dX1_shadowed_24 (by decide) ?_
        exact k_top (by first | (simp [c_3, b2i]; done) | (simp [b2i]; exact fun h => absurd c_3 h)) (hj25 _ _ hI)
      · refine lv_iconst (v := 1) cx.1 cx.2.1 dX1_shadowed_20 (by decide) ?_
        refine lv_goto (tgt := 25) cx.1 cx.2.1 dX1_shadowed_21 (by decide) ?_
        exact k_top (by first | (simp [c_3, b2i]; done) | (simp [b2i]; exact fun h => absurd c_3 h)) (hj25 _ _ hI)
set_option maxHeartbeats 4000000 in
set_option maxRecDepth 100000 in
theorem kX1_finish (l : Launch) (D : va_G) (ca : Nat → ClassId) (ad : Nat → Nat) (v : MS) : CM l yX1_finish cX1_finish 3 (some .int) (KR 1 21) D ca (mw ad ca v) [.ref (ad 0)] (some (.int (if mfUndo v = 0 then mRemN (mUz v (mfUndo v)) 40 else 0))) (mw ad ca (mFinish v)) := by
  refine CM.of (by decide) (Nat.le_of_ble_eq_true rfl) ?_
  intro p e s m below meth c A ls cx hml hr hlk hI hl
  have hl : lv_has ls 3 [(0, .ref (ad 0))] := hl
  refine lv_aload_n cx.1 cx.2.1 dX1_finish_0 rfl (lv_at hl 0 rfl) ?_
  refine k_join (D := D) (A := A) 14 (mw ad ca v) [.int (mfUndo v), .ref (ad 0)] (fun H locs hI => ?_) (fun hj14 => ?_)
  · refine mc_i 1 cx (hl.1.trans hml.symm) (kX1_can l D ca ad v (mfUndo v)) hI wk_512 wk_509 wk_511 wq_24 ⟨rfl, by decide +kernel⟩ rfl ⟨rfl, rfl⟩ ⟨Nat.le_of_ble_eq_true rfl, Nat.le_of_ble_eq_true rfl⟩ (Nat.le_of_ble_eq_true rfl) dX1_finish_14 ⟨Nat.zero_le _, Nat.zero_le _⟩ rfl (fun H locs hI => ?_)
    refine kb_ne (tgt := 22) cx dX1_finish_17 (by decide) (fun c_1 => ?_) (fun c_1 => ?_)
    · refine lv_iconst (v := 0) cx.1 cx.2.1 dX1_finish_22 (by decide) ?_
      refine lv_istore_n (lv' := [(1, .int 0), (0, .ref (ad 0))]) cx.1 cx.2.1 dX1_finish_23 rfl hl (by decide) rfl (fun ls hl => ?_)
      refine lv_iconst (v := 0) cx.1 cx.2.1 dX1_finish_24 (by decide) ?_
      refine lv_istore_n (lv' := [(2, .int 0), (1, .int 0), (0, .ref (ad 0))]) cx.1 cx.2.1 dX1_finish_25 rfl hl (by decide) rfl (fun ls hl => ?_)
      refine k_loop 40 (fun i => (mw ad ca (mRem (mUz v (mfUndo v)) i))) (fun i => [(2, .int (nI i)), (1, .int (mRemN (mUz v (mfUndo v)) i)), (0, .ref (ad 0))]) hI (lv_sub hl [0, 1, 2] rfl) (fun H locs ls hI hl => ?_) (fun i hi H locs ls hI hl ih => ?_)
      · have hI : KI D A (mw ad ca (mRem (mUz v (mfUndo v)) 40)) s.heap H locs := hI
        have hl : lv_has ls 3 [(2, .int (nI 40)), (1, .int (mRemN (mUz v (mfUndo v)) 40)), (0, .ref (ad 0))] := hl
        refine lv_iload_n cx.1 cx.2.1 dX1_finish_26 rfl (lv_at hl 0 rfl) ?_
        refine lv_bipush (v := 40) cx.1 cx.2.1 dX1_finish_27 (by decide) ?_
        refine lv_icmp_ge (tgt := 67) cx.1 cx.2.1 dX1_finish_29 (by decide) (fun _ => ?_) (fun h9 => absurd (by decide : (40 : Int32) ≤ nI 40) h9)
        refine lv_aload_n cx.1 cx.2.1 dX1_finish_67 rfl (lv_at hl 2 rfl) ?_
        refine mc_v 0 cx (hl.1.trans hml.symm) (kX1_clears l D ca ad (mRem (mUz v (mfUndo v)) 40)) hI wk_551 wk_548 wk_550 wq_29 ⟨rfl, by decide +kernel⟩ rfl ⟨rfl, rfl⟩ ⟨Nat.le_of_ble_eq_true rfl, Nat.le_of_ble_eq_true rfl⟩ (Nat.le_of_ble_eq_true rfl) dX1_finish_68 ⟨Nat.zero_le _, Nat.zero_le _⟩ rfl (fun H locs hI => ?_)
        refine lv_aload_n cx.1 cx.2.1 dX1_finish_71 rfl (lv_at hl 2 rfl) ?_
        refine lv_iconst (v := 0) cx.1 cx.2.1 dX1_finish_72 (by decide) ?_
        refine mp_4 cx hI dX1_finish_73 (fun H locs hI => ?_)
        refine lv_iload_n cx.1 cx.2.1 dX1_finish_76 rfl (lv_at hl 1 rfl) ?_
        exact ke_i cx hr hlk hI (Nat.zero_le _) (Nat.zero_le _) dX1_finish_77 (congrArg (fun z => some (Value.int z)) (by simp [mFinish, (of_decide_eq_true c_1)])) (congrArg (mw ad ca) (by simp [mFinish, (of_decide_eq_true c_1)]))
      · have hI : KI D A (mw ad ca (mRem (mUz v (mfUndo v)) i)) s.heap H locs := hI
        have hl : lv_has ls 3 [(2, .int (nI i)), (1, .int (mRemN (mUz v (mfUndo v)) i)), (0, .ref (ad 0))] := hl
        refine lv_iload_n cx.1 cx.2.1 dX1_finish_26 rfl (lv_at hl 0 rfl) ?_
        refine lv_bipush (v := 40) cx.1 cx.2.1 dX1_finish_27 (by decide) ?_
        refine lv_icmp_ge (tgt := 67) cx.1 cx.2.1 dX1_finish_29 (by decide) (fun h9 => absurd h9 (nI_ge hi (by decide))) (fun _ => ?_)
        refine lv_aload_n cx.1 cx.2.1 dX1_finish_32 rfl (lv_at hl 2 rfl) ?_
        refine mg_0 cx hI dX1_finish_33 ?_
        refine lv_iload_n cx.1 cx.2.1 dX1_finish_36 rfl (lv_at hl 0 rfl) ?_
        refine ma_O cx hI (vp_in_nI hi (by decide)) dX1_finish_37 ?_
        refine lv_iconst (v := (-1)) cx.1 cx.2.1 dX1_finish_38 (by decide) ?_
        refine lv_icmp_eq (tgt := 61) cx.1 cx.2.1 dX1_finish_39 (by decide) (fun c_4 => ?_) (fun c_4 => ?_)
        · refine lv_iinc (v := nI (i + 1)) (lv' := [(2, .int (nI (i + 1))), (1, .int (mRemN (mUz v (mfUndo v)) i)), (0, .ref (ad 0))]) cx.1 cx.2.1 dX1_finish_61 hl (k := 0) rfl (nI_1 i) (by decide) rfl (fun ls hl => ?_)
          refine lv_goto (tgt := 26) cx.1 cx.2.1 dX1_finish_64 (by decide) ?_
          refine ih _ _ _ ?_ ?_
          · show KI D A (mw ad ca (mRem (mUz v (mfUndo v)) (i + 1))) s.heap _ _
            rw [show mRem (mUz v (mfUndo v)) (i + 1) = mRem (mUz v (mfUndo v)) i from (by simp [mFinish, c_4, mRem, mGo])]
            exact hI
          · show lv_has _ _ [(2, .int (nI (i + 1))), (1, .int (mRemN (mUz v (mfUndo v)) (i + 1))), (0, .ref (ad 0))]
            rw [show mRemN (mUz v (mfUndo v)) (i + 1) = mRemN (mUz v (mfUndo v)) i from (by simp [mFinish, c_4, mRemN, mGo, b2i])]
            exact lv_sub hl [0, 1, 2] rfl
        · refine lv_aload_n cx.1 cx.2.1 dX1_finish_42 rfl (lv_at hl 2 rfl) ?_
          refine mg_2 cx hI dX1_finish_43 ?_
          refine lv_iload_n cx.1 cx.2.1 dX1_finish_46 rfl (lv_at hl 0 rfl) ?_
          refine ma_H cx hI (vp_in_nI hi (by decide)) dX1_finish_47 ?_
          refine lv_if_ne (tgt := 61) cx.1 cx.2.1 dX1_finish_48 (by decide) (fun c_5 => ?_) (fun c_5 => ?_)
          · refine lv_iinc (v := nI (i + 1)) (lv' := [(2, .int (nI (i + 1))), (1, .int (mRemN (mUz v (mfUndo v)) i)), (0, .ref (ad 0))]) cx.1 cx.2.1 dX1_finish_61 hl (k := 0) rfl (nI_1 i) (by decide) rfl (fun ls hl => ?_)
            refine lv_goto (tgt := 26) cx.1 cx.2.1 dX1_finish_64 (by decide) ?_
            refine ih _ _ _ ?_ ?_
            · show KI D A (mw ad ca (mRem (mUz v (mfUndo v)) (i + 1))) s.heap _ _
              rw [show mRem (mUz v (mfUndo v)) (i + 1) = mRem (mUz v (mfUndo v)) i from (by simp [mFinish, c_4, c_5, mRem, mGo])]
              exact hI
            · show lv_has _ _ [(2, .int (nI (i + 1))), (1, .int (mRemN (mUz v (mfUndo v)) (i + 1))), (0, .ref (ad 0))]
              rw [show mRemN (mUz v (mfUndo v)) (i + 1) = mRemN (mUz v (mfUndo v)) i from (by simp [mFinish, c_4, c_5, mRemN, mGo, b2i])]
              exact lv_sub hl [0, 1, 2] rfl
          · refine lv_aload_n cx.1 cx.2.1 dX1_finish_51 rfl (lv_at hl 2 rfl) ?_
            refine mg_0 cx hI dX1_finish_52 ?_
            refine lv_iload_n cx.1 cx.2.1 dX1_finish_55 rfl (lv_at hl 0 rfl) ?_
            refine lv_iconst (v := (-1)) cx.1 cx.2.1 dX1_finish_56 (by decide) ?_
            refine ms_O cx hI (vp_in_nI hi (by decide)) dX1_finish_57 (fun H locs hI => ?_)
            refine lv_iinc (v := mRemN (mUz v (mfUndo v)) i + 1) (lv' := [(1, .int (mRemN (mUz v (mfUndo v)) i + 1)), (2, .int (nI i)), (0, .ref (ad 0))]) cx.1 cx.2.1 dX1_finish_58 hl (k := 1) rfl rfl (by decide) rfl (fun ls hl => ?_)
            refine lv_iinc (v := nI (i + 1)) (lv' := [(2, .int (nI (i + 1))), (1, .int (mRemN (mUz v (mfUndo v)) i + 1)), (0, .ref (ad 0))]) cx.1 cx.2.1 dX1_finish_61 hl (k := 1) rfl (nI_1 i) (by decide) rfl (fun ls hl => ?_)
            refine lv_goto (tgt := 26) cx.1 cx.2.1 dX1_finish_64 (by decide) ?_
            refine ih _ _ _ ?_ ?_
            · show KI D A (mw ad ca (mRem (mUz v (mfUndo v)) (i + 1))) s.heap _ _
              rw [show mRem (mUz v (mfUndo v)) (i + 1) = mUO (mRem (mUz v (mfUndo v)) i) (upd (mO (mRem (mUz v (mfUndo v)) i)) (nI i).toNatClampNeg (-1)) from (by simp [mFinish, c_4, c_5, mRem, mGo])]
              exact hI
            · show lv_has _ _ [(2, .int (nI (i + 1))), (1, .int (mRemN (mUz v (mfUndo v)) (i + 1))), (0, .ref (ad 0))]
              rw [show mRemN (mUz v (mfUndo v)) (i + 1) = mRemN (mUz v (mfUndo v)) i + 1 from (by simp [mFinish, c_4, c_5, mRemN, mGo, b2i])]
              exact lv_sub hl [0, 1, 2] rfl
    · refine lv_iconst (v := 0) cx.1 cx.2.1 dX1_finish_20 (by decide) ?_
      exact ke_i cx hr hlk hI (Nat.zero_le _) (Nat.zero_le _) dX1_finish_21 (congrArg (fun z => some (Value.int z)) (by simp [mFinish, (of_decide_eq_false c_1)])) (congrArg (mw ad ca) (by simp [mFinish, (of_decide_eq_false c_1)]))
  ·
    refine lv_aload_n cx.1 cx.2.1 dX1_finish_1 rfl (lv_at hl 0 rfl) ?_
    refine mg_4 cx hI dX1_finish_2 ?_
    refine lv_iconst (v := 2) cx.1 cx.2.1 dX1_finish_5 (by decide) ?_
    refine lv_icmp_ne (tgt := 13) cx.1 cx.2.1 dX1_finish_6 (by decide) (fun c_6 => ?_) (fun c_6 => ?_)
    · refine lv_iconst (v := 1) cx.1 cx.2.1 dX1_finish_13 (by decide) ?_
      exact k_top (by first | (simp [mFinish, c_6, mfUndo]; done) | (simp [mFinish, mfUndo]; exact fun h => absurd c_6 h)) (hj14 _ _ hI)
    · refine lv_iconst (v := 0) cx.1 cx.2.1 dX1_finish_9 (by decide) ?_
      refine lv_goto (tgt := 14) cx.1 cx.2.1 dX1_finish_10 (by decide) ?_
      exact k_top (by first | (simp [mFinish, c_6, mfUndo]; done) | (simp [mFinish, mfUndo]; exact fun h => absurd c_6 h)) (hj14 _ _ hI)
set_option maxHeartbeats 4000000 in
set_option maxRecDepth 100000 in
theorem kX1_giveUp (l : Launch) (D : va_G) (ca : Nat → ClassId) (ad : Nat → Nat) (v : MS) : CM l yX1_giveUp cX1_giveUp 2 (some .int) (KR 1 22) D ca (mw ad ca v) [.ref (ad 0)] (some (.int (if mfGive v = 0 then mShd (mUz v (mfGive v)) 40 else 0))) (mw ad ca (mGive v)) := by
  refine CM.of (by decide) (Nat.le_of_ble_eq_true rfl) ?_
  intro p e s m below meth c A ls cx hml hr hlk hI hl
  have hl : lv_has ls 2 [(0, .ref (ad 0))] := hl
  refine lv_aload_n cx.1 cx.2.1 dX1_giveUp_0 rfl (lv_at hl 0 rfl) ?_
  refine k_join (D := D) (A := A) 14 (mw ad ca v) [.int (mfGive v), .ref (ad 0)] (fun H locs hI => ?_) (fun hj14 => ?_)
  · refine mc_i 1 cx (hl.1.trans hml.symm) (kX1_can l D ca ad v (mfGive v)) hI wk_512 wk_509 wk_511 wq_24 ⟨rfl, by decide +kernel⟩ rfl ⟨rfl, rfl⟩ ⟨Nat.le_of_ble_eq_true rfl, Nat.le_of_ble_eq_true rfl⟩ (Nat.le_of_ble_eq_true rfl) dX1_giveUp_14 ⟨Nat.zero_le _, Nat.zero_le _⟩ rfl (fun H locs hI => ?_)
    refine kb_ne (tgt := 22) cx dX1_giveUp_17 (by decide) (fun c_1 => ?_) (fun c_1 => ?_)
    · refine lv_aload_n cx.1 cx.2.1 dX1_giveUp_22 rfl (lv_at hl 0 rfl) ?_
      refine mc_i 0 cx (hl.1.trans hml.symm) (kX1_shadowed l D ca ad (mUz v (mfGive v))) hI wk_583 wk_580 wk_582 wq_31 ⟨rfl, by decide +kernel⟩ rfl ⟨rfl, rfl⟩ ⟨Nat.le_of_ble_eq_true rfl, Nat.le_of_ble_eq_true rfl⟩ (Nat.le_of_ble_eq_true rfl) dX1_giveUp_23 ⟨Nat.zero_le _, Nat.zero_le _⟩ rfl (fun H locs hI => ?_)
      refine lv_istore_n (lv' := [(1, .int (mShd (mUz v (mfGive v)) 40)), (0, .ref (ad 0))]) cx.1 cx.2.1 dX1_giveUp_26 rfl hl (by decide) rfl (fun ls hl => ?_)
      refine lv_aload_n cx.1 cx.2.1 dX1_giveUp_27 rfl (lv_at hl 1 rfl) ?_
      refine mc_v 0 cx (hl.1.trans hml.symm) (kX1_clears l D ca ad (mUz v (mfGive v))) hI wk_551 wk_548 wk_550 wq_29 ⟨rfl, by decide +kernel⟩ rfl ⟨rfl, rfl⟩ ⟨Nat.le_of_ble_eq_true rfl, Nat.le_of_ble_eq_true rfl⟩ (Nat.le_of_ble_eq_true rfl) dX1_giveUp_28 ⟨Nat.zero_le _, Nat.zero_le _⟩ rfl (fun H locs hI => ?_)
      refine lv_aload_n cx.1 cx.2.1 dX1_giveUp_31 rfl (lv_at hl 1 rfl) ?_
      refine lv_iconst (v := 0) cx.1 cx.2.1 dX1_giveUp_32 (by decide) ?_
      refine mp_4 cx hI dX1_giveUp_33 (fun H locs hI => ?_)
      refine lv_iload_n cx.1 cx.2.1 dX1_giveUp_36 rfl (lv_at hl 0 rfl) ?_
      exact ke_i cx hr hlk hI (Nat.zero_le _) (Nat.zero_le _) dX1_giveUp_37 (congrArg (fun z => some (Value.int z)) (by simp [mGive, (of_decide_eq_true c_1)])) (congrArg (mw ad ca) (by simp [mGive, (of_decide_eq_true c_1)]))
    · refine lv_iconst (v := 0) cx.1 cx.2.1 dX1_giveUp_20 (by decide) ?_
      exact ke_i cx hr hlk hI (Nat.zero_le _) (Nat.zero_le _) dX1_giveUp_21 (congrArg (fun z => some (Value.int z)) (by simp [mGive, (of_decide_eq_false c_1)])) (congrArg (mw ad ca) (by simp [mGive, (of_decide_eq_false c_1)]))
  ·
    refine lv_aload_n cx.1 cx.2.1 dX1_giveUp_1 rfl (lv_at hl 0 rfl) ?_
    refine mg_4 cx hI dX1_giveUp_2 ?_
    refine lv_iconst (v := 1) cx.1 cx.2.1 dX1_giveUp_5 (by decide) ?_
    refine lv_icmp_ne (tgt := 13) cx.1 cx.2.1 dX1_giveUp_6 (by decide) (fun c_2 => ?_) (fun c_2 => ?_)
    · refine lv_iconst (v := 1) cx.1 cx.2.1 dX1_giveUp_13 (by decide) ?_
      exact k_top (by first | (simp [mGive, c_2, mfGive]; done) | (simp [mGive, mfGive]; exact fun h => absurd c_2 h)) (hj14 _ _ hI)
    · refine lv_iconst (v := 0) cx.1 cx.2.1 dX1_giveUp_9 (by decide) ?_
      refine lv_goto (tgt := 14) cx.1 cx.2.1 dX1_giveUp_10 (by decide) ?_
      exact k_top (by first | (simp [mGive, c_2, mfGive]; done) | (simp [mGive, mfGive]; exact fun h => absurd c_2 h)) (hj14 _ _ hI)
set_option maxHeartbeats 4000000 in
set_option maxRecDepth 100000 in
theorem kX1_row (l : Launch) (D : va_G) (ca : Nat → ClassId) (ad : Nat → Nat) (v : MS) (key : Int32) : CM l yX1_row cX1_row 2 (some .int) (KR 2 42) D ca (mw ad ca v) [.ref (ad 0), .int key] (some (.int (if mfKey key = 0 then (if mSeen v key then mO v key.toNatClampNeg else -1) else 0))) (mw ad ca (mUz v (mfKey key))) := by
  refine CM.of (by decide) (Nat.le_of_ble_eq_true rfl) ?_
  intro p e s m below meth c A ls cx hml hr hlk hI hl
  have hl : lv_has ls 2 [(0, .ref (ad 0)), (1, .int key)] := hl
  refine lv_aload_n cx.1 cx.2.1 dX1_row_0 rfl (lv_at hl 0 rfl) ?_
  refine k_join (D := D) (A := A) 13 (mw ad ca v) [.int (mfKey key), .ref (ad 0)] (fun H locs hI => ?_) (fun hj13 => ?_)
  · refine mc_i 1 cx (hl.1.trans hml.symm) (kX1_can l D ca ad v (mfKey key)) hI wk_512 wk_509 wk_511 wq_24 ⟨rfl, by decide +kernel⟩ rfl ⟨rfl, rfl⟩ ⟨Nat.le_of_ble_eq_true rfl, Nat.le_of_ble_eq_true rfl⟩ (Nat.le_of_ble_eq_true rfl) dX1_row_13 ⟨Nat.zero_le _, Nat.zero_le _⟩ rfl (fun H locs hI => ?_)
    refine kb_eq (tgt := 40) cx dX1_row_16 (by decide) (fun c_1 => ?_) (fun c_1 => ?_)
    · refine lv_iconst (v := 0) cx.1 cx.2.1 dX1_row_40 (by decide) ?_
      exact ke_i cx hr hlk hI (Nat.zero_le _) (Nat.zero_le _) dX1_row_41 (congrArg (fun z => some (Value.int z)) (by simp [(of_decide_eq_false c_1)])) rfl
    · have hk := mfKey_in c_1
      refine lv_aload_n cx.1 cx.2.1 dX1_row_19 rfl (lv_at hl 0 rfl) ?_
      refine lv_iload_n cx.1 cx.2.1 dX1_row_20 rfl (lv_at hl 1 rfl) ?_
      refine mc_i 1 cx (hl.1.trans hml.symm) (kX1_isSeen l D ca ad (mUz v (mfKey key)) key hk) hI wk_508 wk_505 wk_507 wq_23 ⟨rfl, by decide +kernel⟩ rfl ⟨rfl, rfl⟩ ⟨Nat.le_of_ble_eq_true rfl, Nat.le_of_ble_eq_true rfl⟩ (Nat.le_of_ble_eq_true rfl) dX1_row_21 ⟨Nat.zero_le _, Nat.zero_le _⟩ rfl (fun H locs hI => ?_)
      refine k_top (y := b2i (mSeen v key)) rfl ?_
      refine kb_eq (tgt := 36) cx dX1_row_24 (by decide) (fun c_2 => ?_) (fun c_2 => ?_)
      · refine lv_iconst (v := (-1)) cx.1 cx.2.1 dX1_row_36 (by decide) ?_
        refine lv_goto (tgt := 41) cx.1 cx.2.1 dX1_row_37 (by decide) ?_
        exact ke_i cx hr hlk hI (Nat.zero_le _) (Nat.zero_le _) dX1_row_41 (congrArg (fun z => some (Value.int z)) (by simp [(of_decide_eq_true c_1), c_2])) rfl
      · refine lv_aload_n cx.1 cx.2.1 dX1_row_27 rfl (lv_at hl 0 rfl) ?_
        refine mg_0 cx hI dX1_row_28 ?_
        refine lv_iload_n cx.1 cx.2.1 dX1_row_31 rfl (lv_at hl 1 rfl) ?_
        refine ma_O cx hI hk dX1_row_32 ?_
        refine k_top (y := mO v key.toNatClampNeg) rfl ?_
        refine k_top (y := mO v key.toNatClampNeg) rfl ?_
        refine lv_goto (tgt := 41) cx.1 cx.2.1 dX1_row_33 (by decide) ?_
        exact ke_i cx hr hlk hI (Nat.zero_le _) (Nat.zero_le _) dX1_row_41 (congrArg (fun z => some (Value.int z)) (by simp [(of_decide_eq_true c_1), c_2])) rfl
  ·
    refine lv_iload_n cx.1 cx.2.1 dX1_row_1 rfl (lv_at hl 1 rfl) ?_
    refine ks_i 1 cx (hl.1.trans hml.symm) (kX1_isKey l D ca key) hI wk_500 wk_498 wk_499 wk_3 ⟨by decide, by decide, by decide +kernel⟩ rfl ⟨rfl, rfl⟩ ⟨Nat.le_of_ble_eq_true rfl, Nat.le_of_ble_eq_true rfl⟩ (Nat.le_of_ble_eq_true rfl) dX1_row_2 ⟨Nat.zero_le _, Nat.zero_le _⟩ rfl (fun H locs hI => ?_)
    refine kb_eq (tgt := 12) cx dX1_row_5 (by decide) (fun c_3 => ?_) (fun c_3 => ?_)
    · refine lv_iconst (v := 1) cx.1 cx.2.1 dX1_row_12 (by decide) ?_
      exact k_top (by first | (simp [c_3, mfKey]; done) | (simp [mfKey]; exact fun h => absurd c_3 h)) (hj13 _ _ hI)
    · refine lv_iconst (v := 0) cx.1 cx.2.1 dX1_row_8 (by decide) ?_
      refine lv_goto (tgt := 13) cx.1 cx.2.1 dX1_row_9 (by decide) ?_
      exact k_top (by first | (simp [c_3, mfKey]; done) | (simp [mfKey]; exact fun h => absurd c_3 h)) (hj13 _ _ hI)
set_option maxHeartbeats 4000000 in
set_option maxRecDepth 100000 in
theorem kX1_rows (l : Launch) (D : va_G) (ca : Nat → ClassId) (ad : Nat → Nat) (v : MS) : CM l yX1_rows cX1_rows 3 (some .int) (KR 1 21) D ca (mw ad ca v) [.ref (ad 0)] (some (.int (mRows v 40))) (mw ad ca (mUz v 0)) := by
  refine CM.of (by decide) (Nat.le_of_ble_eq_true rfl) ?_
  intro p e s m below meth c A ls cx hml hr hlk hI hl
  have hl : lv_has ls 3 [(0, .ref (ad 0))] := hl
  refine lv_aload_n cx.1 cx.2.1 dX1_rows_0 rfl (lv_at hl 0 rfl) ?_
  refine lv_iconst (v := 0) cx.1 cx.2.1 dX1_rows_1 (by decide) ?_
  refine mp_12 cx hI dX1_rows_2 (fun H locs hI => ?_)
  refine lv_iconst (v := 0) cx.1 cx.2.1 dX1_rows_5 (by decide) ?_
  refine lv_istore_n (lv' := [(1, .int 0), (0, .ref (ad 0))]) cx.1 cx.2.1 dX1_rows_6 rfl hl (by decide) rfl (fun ls hl => ?_)
  refine lv_iconst (v := 0) cx.1 cx.2.1 dX1_rows_7 (by decide) ?_
  refine lv_istore_n (lv' := [(2, .int 0), (1, .int 0), (0, .ref (ad 0))]) cx.1 cx.2.1 dX1_rows_8 rfl hl (by decide) rfl (fun ls hl => ?_)
  refine k_loop 40 (fun i => (mw ad ca (mUz v 0))) (fun i => [(2, .int (nI i)), (1, .int (mRows v i)), (0, .ref (ad 0))]) hI (lv_sub hl [0, 1, 2] rfl) (fun H locs ls hI hl => ?_) (fun i hi H locs ls hI hl ih => ?_)
  · have hI : KI D A (mw ad ca (mUz v 0)) s.heap H locs := hI
    have hl : lv_has ls 3 [(2, .int (nI 40)), (1, .int (mRows v 40)), (0, .ref (ad 0))] := hl
    refine lv_iload_n cx.1 cx.2.1 dX1_rows_9 rfl (lv_at hl 0 rfl) ?_
    refine lv_bipush (v := 40) cx.1 cx.2.1 dX1_rows_10 (by decide) ?_
    refine lv_icmp_ge (tgt := 37) cx.1 cx.2.1 dX1_rows_12 (by decide) (fun _ => ?_) (fun h9 => absurd (by decide : (40 : Int32) ≤ nI 40) h9)
    refine lv_iload_n cx.1 cx.2.1 dX1_rows_37 rfl (lv_at hl 1 rfl) ?_
    exact ke_i cx hr hlk hI (Nat.zero_le _) (Nat.zero_le _) dX1_rows_38 rfl rfl
  · have hI : KI D A (mw ad ca (mUz v 0)) s.heap H locs := hI
    have hl : lv_has ls 3 [(2, .int (nI i)), (1, .int (mRows v i)), (0, .ref (ad 0))] := hl
    refine lv_iload_n cx.1 cx.2.1 dX1_rows_9 rfl (lv_at hl 0 rfl) ?_
    refine lv_bipush (v := 40) cx.1 cx.2.1 dX1_rows_10 (by decide) ?_
    refine lv_icmp_ge (tgt := 37) cx.1 cx.2.1 dX1_rows_12 (by decide) (fun h9 => absurd h9 (nI_ge hi (by decide))) (fun _ => ?_)
    refine lv_iload_n cx.1 cx.2.1 dX1_rows_15 rfl (lv_at hl 1 rfl) ?_
    refine lv_aload_n cx.1 cx.2.1 dX1_rows_16 rfl (lv_at hl 2 rfl) ?_
    refine lv_iload_n cx.1 cx.2.1 dX1_rows_17 rfl (lv_at hl 0 rfl) ?_
    refine mc_i 1 cx (hl.1.trans hml.symm) (kX1_isSeen l D ca ad (mUz v 0) (nI i) (vp_in_nI hi (by decide))) hI wk_508 wk_505 wk_507 wq_23 ⟨rfl, by decide +kernel⟩ rfl ⟨rfl, rfl⟩ ⟨Nat.le_of_ble_eq_true rfl, Nat.le_of_ble_eq_true rfl⟩ (Nat.le_of_ble_eq_true rfl) dX1_rows_18 ⟨Nat.zero_le _, Nat.zero_le _⟩ rfl (fun H locs hI => ?_)
    refine k_top (y := b2i (mSeen v (nI i))) rfl ?_
    refine k_join (D := D) (A := A) 29 (mw ad ca (mUz v 0)) [.int (b2i (mSeen v (nI i))), .int (mRows v i)] (fun H locs hI => ?_) (fun hj29 => ?_)
    · refine lv_iadd cx.1 cx.2.1 dX1_rows_29 ?_
      refine lv_istore_n (lv' := [(1, .int ((mRows v i) + (b2i (mSeen v (nI i))))), (2, .int (nI i)), (0, .ref (ad 0))]) cx.1 cx.2.1 dX1_rows_30 rfl hl (by decide) rfl (fun ls hl => ?_)
      refine lv_iinc (v := nI (i + 1)) (lv' := [(2, .int (nI (i + 1))), (1, .int ((mRows v i) + (b2i (mSeen v (nI i))))), (0, .ref (ad 0))]) cx.1 cx.2.1 dX1_rows_31 hl (k := 1) rfl (nI_1 i) (by decide) rfl (fun ls hl => ?_)
      refine lv_goto (tgt := 9) cx.1 cx.2.1 dX1_rows_34 (by decide) ?_
      refine ih _ _ _ ?_ ?_
      · show KI D A (mw ad ca (mUz v 0)) s.heap _ _
        exact hI
      · show lv_has _ _ [(2, .int (nI (i + 1))), (1, .int (mRows v (i + 1))), (0, .ref (ad 0))]
        rw [show mRows v (i + 1) = (mRows v i) + (b2i (mSeen v (nI i))) from (by simp [mRows, kSum])]
        exact lv_sub hl [0, 1, 2] rfl
    ·
      refine kb_eq (tgt := 28) cx dX1_rows_21 (by decide) (fun c_3 => ?_) (fun c_3 => ?_)
      · refine lv_iconst (v := 0) cx.1 cx.2.1 dX1_rows_28 (by decide) ?_
        exact k_top (by first | (simp [c_3, b2i]; done) | (simp [b2i]; exact fun h => absurd c_3 h)) (hj29 _ _ hI)
      · refine lv_iconst (v := 1) cx.1 cx.2.1 dX1_rows_24 (by decide) ?_
        refine lv_goto (tgt := 29) cx.1 cx.2.1 dX1_rows_25 (by decide) ?_
        exact k_top (by first | (simp [c_3, b2i]; done) | (simp [b2i]; exact fun h => absurd c_3 h)) (hj29 _ _ hI)
set_option maxHeartbeats 4000000 in
set_option maxRecDepth 100000 in
theorem kX1_phase (l : Launch) (D : va_G) (ca : Nat → ClassId) (ad : Nat → Nat) (v : MS) : CM l yX1_phase cX1_phase 1 (some .int) (KR 0 0) D ca (mw ad ca v) [.ref (ad 0)] (some (.int (mp v))) (mw ad ca (mUz v 0)) := by
  refine CM.of (by decide) (Nat.le_of_ble_eq_true rfl) ?_
  intro p e s m below meth c A ls cx hml hr hlk hI hl
  have hl : lv_has ls 1 [(0, .ref (ad 0))] := hl
  refine lv_aload_n cx.1 cx.2.1 dX1_phase_0 rfl (lv_at hl 0 rfl) ?_
  refine lv_iconst (v := 0) cx.1 cx.2.1 dX1_phase_1 (by decide) ?_
  refine mp_12 cx hI dX1_phase_2 (fun H locs hI => ?_)
  refine lv_aload_n cx.1 cx.2.1 dX1_phase_5 rfl (lv_at hl 0 rfl) ?_
  refine mg_4 cx hI dX1_phase_6 ?_
  refine k_top (y := mp v) rfl ?_
  refine k_top (y := mp v) rfl ?_
  exact ke_i cx hr hlk hI (Nat.zero_le _) (Nat.zero_le _) dX1_phase_9 rfl rfl
set_option maxHeartbeats 4000000 in
set_option maxRecDepth 100000 in
theorem kX1_mark (l : Launch) (D : va_G) (ca : Nat → ClassId) (ad : Nat → Nat) (v : MS) : CM l yX1_mark cX1_mark 1 (some .int) (KR 0 0) D ca (mw ad ca v) [.ref (ad 0)] (some (.int (if mp v = 0 then -1 else mm v))) (mw ad ca (mUz v 0)) := by
  refine CM.of (by decide) (Nat.le_of_ble_eq_true rfl) ?_
  intro p e s m below meth c A ls cx hml hr hlk hI hl
  have hl : lv_has ls 1 [(0, .ref (ad 0))] := hl
  refine lv_aload_n cx.1 cx.2.1 dX1_mark_0 rfl (lv_at hl 0 rfl) ?_
  refine lv_iconst (v := 0) cx.1 cx.2.1 dX1_mark_1 (by decide) ?_
  refine mp_12 cx hI dX1_mark_2 (fun H locs hI => ?_)
  refine lv_aload_n cx.1 cx.2.1 dX1_mark_5 rfl (lv_at hl 0 rfl) ?_
  refine mg_4 cx hI dX1_mark_6 ?_
  refine k_top (y := mp v) rfl ?_
  refine k_top (y := mp v) rfl ?_
  refine lv_if_ne (tgt := 16) cx.1 cx.2.1 dX1_mark_9 (by decide) (fun c_1 => ?_) (fun c_1 => ?_)
  · refine lv_aload_n cx.1 cx.2.1 dX1_mark_16 rfl (lv_at hl 0 rfl) ?_
    refine mg_9 cx hI dX1_mark_17 ?_
    refine k_top (y := mm v) rfl ?_
    refine k_top (y := mm v) rfl ?_
    exact ke_i cx hr hlk hI (Nat.zero_le _) (Nat.zero_le _) dX1_mark_20 (congrArg (fun z => some (Value.int z)) (by simp [c_1])) rfl
  · refine lv_iconst (v := (-1)) cx.1 cx.2.1 dX1_mark_12 (by decide) ?_
    refine lv_goto (tgt := 20) cx.1 cx.2.1 dX1_mark_13 (by decide) ?_
    exact ke_i cx hr hlk hI (Nat.zero_le _) (Nat.zero_le _) dX1_mark_20 (congrArg (fun z => some (Value.int z)) (by simp [c_1])) rfl
set_option maxHeartbeats 4000000 in
set_option maxRecDepth 100000 in
theorem kX1_notes (l : Launch) (D : va_G) (ca : Nat → ClassId) (ad : Nat → Nat) (v : MS) : CM l yX1_notes cX1_notes 1 (some .int) (KR 0 0) D ca (mw ad ca v) [.ref (ad 0)] (some (.int (mc v))) (mw ad ca (mUz v 0)) := by
  refine CM.of (by decide) (Nat.le_of_ble_eq_true rfl) ?_
  intro p e s m below meth c A ls cx hml hr hlk hI hl
  have hl : lv_has ls 1 [(0, .ref (ad 0))] := hl
  refine lv_aload_n cx.1 cx.2.1 dX1_notes_0 rfl (lv_at hl 0 rfl) ?_
  refine lv_iconst (v := 0) cx.1 cx.2.1 dX1_notes_1 (by decide) ?_
  refine mp_12 cx hI dX1_notes_2 (fun H locs hI => ?_)
  refine lv_aload_n cx.1 cx.2.1 dX1_notes_5 rfl (lv_at hl 0 rfl) ?_
  refine mg_10 cx hI dX1_notes_6 ?_
  refine k_top (y := mc v) rfl ?_
  refine k_top (y := mc v) rfl ?_
  exact ke_i cx hr hlk hI (Nat.zero_le _) (Nat.zero_le _) dX1_notes_9 rfl rfl
set_option maxHeartbeats 4000000 in
set_option maxRecDepth 100000 in
theorem kX1_shadow (l : Launch) (D : va_G) (ca : Nat → ClassId) (ad : Nat → Nat) (v : MS) (key col : Int32) : CM l yX1_shadow cX1_shadow 3 (some .int) (KR 2 42) D ca (mw ad ca v) [.ref (ad 0), .int key, .int col] (some (.int (if mfShadow key col = 0 then (if mH v key.toNatClampNeg = 0 then -1 else mS v (3 * key + col).toNatClampNeg) else 0))) (mw ad ca (mUz v (mfShadow key col))) := by
  refine CM.of (by decide) (Nat.le_of_ble_eq_true rfl) ?_
  intro p e s m below meth c A ls cx hml hr hlk hI hl
  have hl : lv_has ls 3 [(0, .ref (ad 0)), (1, .int key), (2, .int col)] := hl
  refine lv_aload_n cx.1 cx.2.1 dX1_shadow_0 rfl (lv_at hl 0 rfl) ?_
  refine k_join (D := D) (A := A) 20 (mw ad ca v) [.int (mfShadow key col), .ref (ad 0)] (fun H locs hI => ?_) (fun hj20 => ?_)
  · refine mc_i 1 cx (hl.1.trans hml.symm) (kX1_can l D ca ad v (mfShadow key col)) hI wk_512 wk_509 wk_511 wq_24 ⟨rfl, by decide +kernel⟩ rfl ⟨rfl, rfl⟩ ⟨Nat.le_of_ble_eq_true rfl, Nat.le_of_ble_eq_true rfl⟩ (Nat.le_of_ble_eq_true rfl) dX1_shadow_20 ⟨Nat.zero_le _, Nat.zero_le _⟩ rfl (fun H locs hI => ?_)
    refine kb_ne (tgt := 28) cx dX1_shadow_23 (by decide) (fun c_1 => ?_) (fun c_1 => ?_)
    · obtain ⟨hk, hc⟩ := mfShadow_in c_1
      refine lv_aload_n cx.1 cx.2.1 dX1_shadow_28 rfl (lv_at hl 0 rfl) ?_
      refine mg_2 cx hI dX1_shadow_29 ?_
      refine lv_iload_n cx.1 cx.2.1 dX1_shadow_32 rfl (lv_at hl 1 rfl) ?_
      refine ma_H cx hI hk dX1_shadow_33 ?_
      refine k_top (y := mH v key.toNatClampNeg) rfl ?_
      refine k_top (y := mH v key.toNatClampNeg) rfl ?_
      refine lv_if_eq (tgt := 50) cx.1 cx.2.1 dX1_shadow_34 (by decide) (fun c_2 => ?_) (fun c_2 => ?_)
      · refine lv_iconst (v := (-1)) cx.1 cx.2.1 dX1_shadow_50 (by decide) ?_
        exact ke_i cx hr hlk hI (Nat.zero_le _) (Nat.zero_le _) dX1_shadow_51 (congrArg (fun z => some (Value.int z)) (by simp [(of_decide_eq_true c_1), c_2])) rfl
      · refine lv_aload_n cx.1 cx.2.1 dX1_shadow_37 rfl (lv_at hl 0 rfl) ?_
        refine mg_1 cx hI dX1_shadow_38 ?_
        refine lv_iconst (v := 3) cx.1 cx.2.1 dX1_shadow_41 (by decide) ?_
        refine lv_iload_n cx.1 cx.2.1 dX1_shadow_42 rfl (lv_at hl 1 rfl) ?_
        refine lv_imul cx.1 cx.2.1 dX1_shadow_43 ?_
        refine lv_iload_n cx.1 cx.2.1 dX1_shadow_44 rfl (lv_at hl 2 rfl) ?_
        refine lv_iadd cx.1 cx.2.1 dX1_shadow_45 ?_
        refine ma_S cx hI (kidx hk hc) dX1_shadow_46 ?_
        refine k_top (y := mS v ((3 * key) + col).toNatClampNeg) rfl ?_
        refine k_top (y := mS v (3 * key + col).toNatClampNeg) rfl ?_
        refine lv_goto (tgt := 51) cx.1 cx.2.1 dX1_shadow_47 (by decide) ?_
        exact ke_i cx hr hlk hI (Nat.zero_le _) (Nat.zero_le _) dX1_shadow_51 (congrArg (fun z => some (Value.int z)) (by simp [(of_decide_eq_true c_1), c_2])) rfl
    · refine lv_iconst (v := 0) cx.1 cx.2.1 dX1_shadow_26 (by decide) ?_
      exact ke_i cx hr hlk hI (Nat.zero_le _) (Nat.zero_le _) dX1_shadow_27 (congrArg (fun z => some (Value.int z)) (by simp [(of_decide_eq_false c_1)])) rfl
  ·
    refine lv_iload_n cx.1 cx.2.1 dX1_shadow_1 rfl (lv_at hl 1 rfl) ?_
    refine ks_i 1 cx (hl.1.trans hml.symm) (kX1_isKey l D ca key) hI wk_500 wk_498 wk_499 wk_3 ⟨by decide, by decide, by decide +kernel⟩ rfl ⟨rfl, rfl⟩ ⟨Nat.le_of_ble_eq_true rfl, Nat.le_of_ble_eq_true rfl⟩ (Nat.le_of_ble_eq_true rfl) dX1_shadow_2 ⟨Nat.zero_le _, Nat.zero_le _⟩ rfl (fun H locs hI => ?_)
    refine kb_eq (tgt := 19) cx dX1_shadow_5 (by decide) (fun c_3 => ?_) (fun c_3 => ?_)
    · refine lv_iconst (v := 1) cx.1 cx.2.1 dX1_shadow_19 (by decide) ?_
      exact k_top (by first | (simp [c_3, mfShadow]; done) | (simp [mfShadow]; exact fun h => absurd c_3 h)) (hj20 _ _ hI)
    · refine lv_iload_n cx.1 cx.2.1 dX1_shadow_8 rfl (lv_at hl 2 rfl) ?_
      refine ks_i 1 cx (hl.1.trans hml.symm) (kX1_isColumn l D ca col) hI wk_610 wk_608 wk_609 wk_3 ⟨by decide, by decide, by decide +kernel⟩ rfl ⟨rfl, rfl⟩ ⟨Nat.le_of_ble_eq_true rfl, Nat.le_of_ble_eq_true rfl⟩ (Nat.le_of_ble_eq_true rfl) dX1_shadow_9 ⟨Nat.zero_le _, Nat.zero_le _⟩ rfl (fun H locs hI => ?_)
      refine kb_eq (tgt := 19) cx dX1_shadow_12 (by decide) (fun c_4 => ?_) (fun c_4 => ?_)
      · refine lv_iconst (v := 1) cx.1 cx.2.1 dX1_shadow_19 (by decide) ?_
        exact k_top (by first | (simp [c_3, c_4, mfShadow]; done) | (simp [c_3, mfShadow]; exact fun h => absurd c_4 h)) (hj20 _ _ hI)
      · refine lv_iconst (v := 0) cx.1 cx.2.1 dX1_shadow_15 (by decide) ?_
        refine lv_goto (tgt := 20) cx.1 cx.2.1 dX1_shadow_16 (by decide) ?_
        exact k_top (by first | (simp [c_3, c_4, mfShadow]; done) | (simp [c_3, mfShadow]; exact fun h => absurd c_4 h)) (hj20 _ _ hI)
set_option maxHeartbeats 4000000 in
set_option maxRecDepth 100000 in
theorem kX1_shadowRows (l : Launch) (D : va_G) (ca : Nat → ClassId) (ad : Nat → Nat) (v : MS) : CM l yX1_shadowRows cX1_shadowRows 1 (some .int) (KR 1 22) D ca (mw ad ca v) [.ref (ad 0)] (some (.int (mShd v 40))) (mw ad ca (mUz v 0)) := by
  refine CM.of (by decide) (Nat.le_of_ble_eq_true rfl) ?_
  intro p e s m below meth c A ls cx hml hr hlk hI hl
  have hl : lv_has ls 1 [(0, .ref (ad 0))] := hl
  refine lv_aload_n cx.1 cx.2.1 dX1_shadowRows_0 rfl (lv_at hl 0 rfl) ?_
  refine lv_iconst (v := 0) cx.1 cx.2.1 dX1_shadowRows_1 (by decide) ?_
  refine mp_12 cx hI dX1_shadowRows_2 (fun H locs hI => ?_)
  refine lv_aload_n cx.1 cx.2.1 dX1_shadowRows_5 rfl (lv_at hl 0 rfl) ?_
  refine mc_i 0 cx (hl.1.trans hml.symm) (kX1_shadowed l D ca ad (mUz v 0)) hI wk_583 wk_580 wk_582 wq_31 ⟨rfl, by decide +kernel⟩ rfl ⟨rfl, rfl⟩ ⟨Nat.le_of_ble_eq_true rfl, Nat.le_of_ble_eq_true rfl⟩ (Nat.le_of_ble_eq_true rfl) dX1_shadowRows_6 ⟨Nat.zero_le _, Nat.zero_le _⟩ rfl (fun H locs hI => ?_)
  refine k_top (y := mShd v 40) rfl ?_
  exact ke_i cx hr hlk hI (Nat.zero_le _) (Nat.zero_le _) dX1_shadowRows_9 rfl rfl
set_option maxHeartbeats 4000000 in
set_option maxRecDepth 100000 in
theorem kX1_isRefused (l : Launch) (D : va_G) (ca : Nat → ClassId) (ad : Nat → Nat) (v : MS) (key : Int32) : CM l yX1_isRefused cX1_isRefused 2 (some .boolean) (KR 2 42) D ca (mw ad ca v) [.ref (ad 0), .int key] (some (.int (b2i (decide (mfKey key = 0) && !decide (mF v key.toNatClampNeg = 0))))) (mw ad ca (mUz v (mfKey key))) := by
  refine CM.of (by decide) (Nat.le_of_ble_eq_true rfl) ?_
  intro p e s m below meth c A ls cx hml hr hlk hI hl
  have hl : lv_has ls 2 [(0, .ref (ad 0)), (1, .int key)] := hl
  refine lv_aload_n cx.1 cx.2.1 dX1_isRefused_0 rfl (lv_at hl 0 rfl) ?_
  refine k_join (D := D) (A := A) 13 (mw ad ca v) [.int (mfKey key), .ref (ad 0)] (fun H locs hI => ?_) (fun hj13 => ?_)
  · refine mc_i 1 cx (hl.1.trans hml.symm) (kX1_can l D ca ad v (mfKey key)) hI wk_512 wk_509 wk_511 wq_24 ⟨rfl, by decide +kernel⟩ rfl ⟨rfl, rfl⟩ ⟨Nat.le_of_ble_eq_true rfl, Nat.le_of_ble_eq_true rfl⟩ (Nat.le_of_ble_eq_true rfl) dX1_isRefused_13 ⟨Nat.zero_le _, Nat.zero_le _⟩ rfl (fun H locs hI => ?_)
    refine kb_eq (tgt := 32) cx dX1_isRefused_16 (by decide) (fun c_1 => ?_) (fun c_1 => ?_)
    · refine lv_iconst (v := 0) cx.1 cx.2.1 dX1_isRefused_32 (by decide) ?_
      exact ke_z cx hr hlk hI (Nat.zero_le _) (Nat.zero_le _) dX1_isRefused_33 rfl (congrArg (fun z => some (Value.int z)) (by simp [b2i, (of_decide_eq_false c_1)])) rfl
    · have hk := mfKey_in c_1
      refine lv_aload_n cx.1 cx.2.1 dX1_isRefused_19 rfl (lv_at hl 0 rfl) ?_
      refine mg_3 cx hI dX1_isRefused_20 ?_
      refine lv_iload_n cx.1 cx.2.1 dX1_isRefused_23 rfl (lv_at hl 1 rfl) ?_
      refine ma_F cx hI hk dX1_isRefused_24 ?_
      refine k_top (y := mF v key.toNatClampNeg) rfl ?_
      refine k_top (y := mF v key.toNatClampNeg) rfl ?_
      refine lv_if_eq (tgt := 32) cx.1 cx.2.1 dX1_isRefused_25 (by decide) (fun c_2 => ?_) (fun c_2 => ?_)
      · refine lv_iconst (v := 0) cx.1 cx.2.1 dX1_isRefused_32 (by decide) ?_
        exact ke_z cx hr hlk hI (Nat.zero_le _) (Nat.zero_le _) dX1_isRefused_33 rfl (congrArg (fun z => some (Value.int z)) (by simp [b2i, (of_decide_eq_true c_1), c_2])) rfl
      · refine lv_iconst (v := 1) cx.1 cx.2.1 dX1_isRefused_28 (by decide) ?_
        refine lv_goto (tgt := 33) cx.1 cx.2.1 dX1_isRefused_29 (by decide) ?_
        exact ke_z cx hr hlk hI (Nat.zero_le _) (Nat.zero_le _) dX1_isRefused_33 rfl (congrArg (fun z => some (Value.int z)) (by simp [b2i, (of_decide_eq_true c_1), c_2])) rfl
  ·
    refine lv_iload_n cx.1 cx.2.1 dX1_isRefused_1 rfl (lv_at hl 1 rfl) ?_
    refine ks_i 1 cx (hl.1.trans hml.symm) (kX1_isKey l D ca key) hI wk_500 wk_498 wk_499 wk_3 ⟨by decide, by decide, by decide +kernel⟩ rfl ⟨rfl, rfl⟩ ⟨Nat.le_of_ble_eq_true rfl, Nat.le_of_ble_eq_true rfl⟩ (Nat.le_of_ble_eq_true rfl) dX1_isRefused_2 ⟨Nat.zero_le _, Nat.zero_le _⟩ rfl (fun H locs hI => ?_)
    refine kb_eq (tgt := 12) cx dX1_isRefused_5 (by decide) (fun c_3 => ?_) (fun c_3 => ?_)
    · refine lv_iconst (v := 1) cx.1 cx.2.1 dX1_isRefused_12 (by decide) ?_
      exact k_top (by first | (simp [b2i, c_3, mfKey]; done) | (simp [b2i, mfKey]; exact fun h => absurd c_3 h)) (hj13 _ _ hI)
    · refine lv_iconst (v := 0) cx.1 cx.2.1 dX1_isRefused_8 (by decide) ?_
      refine lv_goto (tgt := 13) cx.1 cx.2.1 dX1_isRefused_9 (by decide) ?_
      exact k_top (by first | (simp [b2i, c_3, mfKey]; done) | (simp [b2i, mfKey]; exact fun h => absurd c_3 h)) (hj13 _ _ hI)
set_option maxHeartbeats 4000000 in
set_option maxRecDepth 100000 in
theorem kX1_isEven (l : Launch) (D : va_G) (ca : Nat → ClassId) (ad : Nat → Nat) (v : MS) (key : Int32) (hk : vp_in key 40) : CM l yX1_isEven cX1_isEven 5 (some .boolean) (KR 2 44) D ca (mw ad ca v) [.ref (ad 0), .int key] (some (.int (b2i (mEven v key)))) (mw ad ca v) := by
  refine CM.of (by decide) (Nat.le_of_ble_eq_true rfl) ?_
  intro p e s m below meth c A ls cx hml hr hlk hI hl
  have hl : lv_has ls 5 [(0, .ref (ad 0)), (1, .int key)] := hl
  refine k_join (D := D) (A := A) 28 (mw ad ca v) [.int (b2i (mDue v key))] (fun H locs hI => ?_) (fun hj28 => ?_)
  · refine lv_istore_n (lv' := [(2, .int (b2i (mDue v key))), (0, .ref (ad 0)), (1, .int key)]) cx.1 cx.2.1 dX1_isEven_28 rfl hl (by decide) rfl (fun ls hl => ?_)
    refine k_join (D := D) (A := A) 44 (mw ad ca v) [.int (b2i (mE0 v key))] (fun H locs hI => ?_) (fun hj44 => ?_)
    · refine lv_istore_n (lv' := [(3, .int (b2i (mE0 v key))), (2, .int (b2i (mDue v key))), (0, .ref (ad 0)), (1, .int key)]) cx.1 cx.2.1 dX1_isEven_44 rfl hl (by decide) rfl (fun ls hl => ?_)
      refine lv_iconst (v := 0) cx.1 cx.2.1 dX1_isEven_45 (by decide) ?_
      refine lv_istore (lv' := [(4, .int 0), (3, .int (b2i (mE0 v key))), (2, .int (b2i (mDue v key))), (0, .ref (ad 0)), (1, .int key)]) cx.1 cx.2.1 dX1_isEven_46 hl (by decide) rfl (fun ls hl => ?_)
      refine lv_iload cx.1 cx.2.1 dX1_isEven_48 (lv_at hl 0 rfl) ?_
      refine lv_iconst (v := 3) cx.1 cx.2.1 dX1_isEven_50 (by decide) ?_
      refine lv_icmp_ge (tgt := 100) cx.1 cx.2.1 dX1_isEven_51 (by decide) (fun h9 => absurd h9 (by decide)) (fun _ => ?_)
      refine lv_iload_n cx.1 cx.2.1 dX1_isEven_54 rfl (lv_at hl 2 rfl) ?_
      refine kb_eq (tgt := 100) cx dX1_isEven_55 (by decide) (fun c_2 => ?_) (fun c_2 => ?_)
      · refine lv_iload_n cx.1 cx.2.1 dX1_isEven_100 rfl (lv_at hl 1 rfl) ?_
        exact ke_z cx hr hlk hI (Nat.zero_le _) (Nat.zero_le _) dX1_isEven_101 (b2i_nar _) (congrArg (fun z => some (Value.int z)) (by simp [mEven, b2i, c_2])) rfl
      · have c_D := c_2
        refine k_join (D := D) (A := A) 93 (mw ad ca v) [.int (b2i (mI1 v key))] (fun H locs hI => ?_) (fun hj93 => ?_)
        · refine lv_istore_n (lv' := [(3, .int (b2i (mI1 v key))), (4, .int 0), (2, .int (b2i (mDue v key))), (0, .ref (ad 0)), (1, .int key)]) cx.1 cx.2.1 dX1_isEven_93 rfl hl (by decide) rfl (fun ls hl => ?_)
          refine lv_iinc (v := 1) (lv' := [(4, .int 1), (3, .int (b2i (mI1 v key))), (2, .int (b2i (mDue v key))), (0, .ref (ad 0)), (1, .int key)]) cx.1 cx.2.1 dX1_isEven_94 hl (k := 1) rfl (by decide) (by decide) rfl (fun ls hl => ?_)
          refine lv_goto (tgt := 48) cx.1 cx.2.1 dX1_isEven_97 (by decide) ?_
          refine lv_iload cx.1 cx.2.1 dX1_isEven_48 (lv_at hl 0 rfl) ?_
          refine lv_iconst (v := 3) cx.1 cx.2.1 dX1_isEven_50 (by decide) ?_
          refine lv_icmp_ge (tgt := 100) cx.1 cx.2.1 dX1_isEven_51 (by decide) (fun h9 => absurd h9 (by decide)) (fun _ => ?_)
          refine lv_iload_n cx.1 cx.2.1 dX1_isEven_54 rfl (lv_at hl 2 rfl) ?_
          refine kb_eq (tgt := 100) cx dX1_isEven_55 (by decide) (fun h9 => absurd h9 (by rw [c_D]; decide)) (fun _ => ?_)
          refine k_join (D := D) (A := A) 93 (mw ad ca v) [.int (b2i (mI2 v key))] (fun H locs hI => ?_) (fun hj93 => ?_)
          · refine lv_istore_n (lv' := [(3, .int (b2i (mI2 v key))), (4, .int 1), (2, .int (b2i (mDue v key))), (0, .ref (ad 0)), (1, .int key)]) cx.1 cx.2.1 dX1_isEven_93 rfl hl (by decide) rfl (fun ls hl => ?_)
            refine lv_iinc (v := 2) (lv' := [(4, .int 2), (3, .int (b2i (mI2 v key))), (2, .int (b2i (mDue v key))), (0, .ref (ad 0)), (1, .int key)]) cx.1 cx.2.1 dX1_isEven_94 hl (k := 1) rfl (by decide) (by decide) rfl (fun ls hl => ?_)
            refine lv_goto (tgt := 48) cx.1 cx.2.1 dX1_isEven_97 (by decide) ?_
            refine lv_iload cx.1 cx.2.1 dX1_isEven_48 (lv_at hl 0 rfl) ?_
            refine lv_iconst (v := 3) cx.1 cx.2.1 dX1_isEven_50 (by decide) ?_
            refine lv_icmp_ge (tgt := 100) cx.1 cx.2.1 dX1_isEven_51 (by decide) (fun h9 => absurd h9 (by decide)) (fun _ => ?_)
            refine lv_iload_n cx.1 cx.2.1 dX1_isEven_54 rfl (lv_at hl 2 rfl) ?_
            refine kb_eq (tgt := 100) cx dX1_isEven_55 (by decide) (fun h9 => absurd h9 (by rw [c_D]; decide)) (fun _ => ?_)
            refine k_join (D := D) (A := A) 93 (mw ad ca v) [.int (b2i (mI3 v key))] (fun H locs hI => ?_) (fun hj93 => ?_)
            · refine lv_istore_n (lv' := [(3, .int (b2i (mI3 v key))), (4, .int 2), (2, .int (b2i (mDue v key))), (0, .ref (ad 0)), (1, .int key)]) cx.1 cx.2.1 dX1_isEven_93 rfl hl (by decide) rfl (fun ls hl => ?_)
              refine lv_iinc (v := 3) (lv' := [(4, .int 3), (3, .int (b2i (mI3 v key))), (2, .int (b2i (mDue v key))), (0, .ref (ad 0)), (1, .int key)]) cx.1 cx.2.1 dX1_isEven_94 hl (k := 1) rfl (by decide) (by decide) rfl (fun ls hl => ?_)
              refine lv_goto (tgt := 48) cx.1 cx.2.1 dX1_isEven_97 (by decide) ?_
              refine lv_iload cx.1 cx.2.1 dX1_isEven_48 (lv_at hl 0 rfl) ?_
              refine lv_iconst (v := 3) cx.1 cx.2.1 dX1_isEven_50 (by decide) ?_
              refine lv_icmp_ge (tgt := 100) cx.1 cx.2.1 dX1_isEven_51 (by decide) (fun _ => ?_) (fun h9 => absurd (by decide : (3 : Int32) ≤ 3) h9)
              refine lv_iload_n cx.1 cx.2.1 dX1_isEven_100 rfl (lv_at hl 1 rfl) ?_
              exact ke_z cx hr hlk hI (Nat.zero_le _) (Nat.zero_le _) dX1_isEven_101 (b2i_nar _) (congrArg (fun z => some (Value.int z)) (by simp [mEven, b2i, c_2])) rfl
            ·
              refine lv_iload_n cx.1 cx.2.1 dX1_isEven_58 rfl (lv_at hl 1 rfl) ?_
              refine kb_eq (tgt := 92) cx dX1_isEven_59 (by decide) (fun c_8 => ?_) (fun c_8 => ?_)
              · refine lv_iconst (v := 0) cx.1 cx.2.1 dX1_isEven_92 (by decide) ?_
                exact k_top (by first | (simp [mEven, b2i, c_2, c_8, mI3, kBoth, b2i]; done) | (simp [mEven, b2i, c_2, mI3, kBoth, b2i]; exact fun h => absurd c_8 h)) (hj93 _ _ hI)
              · refine lv_aload_n cx.1 cx.2.1 dX1_isEven_62 rfl (lv_at hl 3 rfl) ?_
                refine mg_1 cx hI dX1_isEven_63 ?_
                refine lv_iconst (v := 3) cx.1 cx.2.1 dX1_isEven_66 (by decide) ?_
                refine lv_iload_n cx.1 cx.2.1 dX1_isEven_67 rfl (lv_at hl 4 rfl) ?_
                refine lv_imul cx.1 cx.2.1 dX1_isEven_68 ?_
                refine lv_iload cx.1 cx.2.1 dX1_isEven_69 (lv_at hl 0 rfl) ?_
                refine lv_iadd cx.1 cx.2.1 dX1_isEven_71 ?_
                refine ma_S cx hI (kidx hk (vp2 (by decide) (by decide))) dX1_isEven_72 ?_
                refine lv_aload_n cx.1 cx.2.1 dX1_isEven_73 rfl (lv_at hl 3 rfl) ?_
                refine lv_aload_n cx.1 cx.2.1 dX1_isEven_74 rfl (lv_at hl 3 rfl) ?_
                refine mg_0 cx hI dX1_isEven_75 ?_
                refine lv_iload_n cx.1 cx.2.1 dX1_isEven_78 rfl (lv_at hl 4 rfl) ?_
                refine ma_O cx hI hk dX1_isEven_79 ?_
                refine lv_iload cx.1 cx.2.1 dX1_isEven_80 (lv_at hl 0 rfl) ?_
                refine mc_i 2 cx (hl.1.trans hml.symm) (kX1_altered l D ca ad v (mO v key.toNatClampNeg) 2) hI wk_528 wk_525 wk_527 wq_28 ⟨rfl, by decide +kernel⟩ rfl ⟨rfl, rfl⟩ ⟨Nat.le_of_ble_eq_true rfl, Nat.le_of_ble_eq_true rfl⟩ (Nat.le_of_ble_eq_true rfl) dX1_isEven_82 ⟨Nat.zero_le _, Nat.zero_le _⟩ rfl (fun H locs hI => ?_)
                refine lv_icmp_ne (tgt := 92) cx.1 cx.2.1 dX1_isEven_85 (by decide) (fun c_9 => ?_) (fun c_9 => ?_)
                · refine lv_iconst (v := 0) cx.1 cx.2.1 dX1_isEven_92 (by decide) ?_
                  exact k_top (by first | (simp [mEven, b2i, c_2, c_8, (mEc_f c_9), mI3, kBoth, b2i]; done) | (simp [mEven, b2i, c_2, c_8, mI3, kBoth, b2i]; exact fun h => absurd (mEc_f c_9) h)) (hj93 _ _ hI)
                · refine lv_iconst (v := 1) cx.1 cx.2.1 dX1_isEven_88 (by decide) ?_
                  refine lv_goto (tgt := 93) cx.1 cx.2.1 dX1_isEven_89 (by decide) ?_
                  exact k_top (by first | (simp [mEven, b2i, c_2, c_8, (mEc_t c_9), mI3, kBoth, b2i]; done) | (simp [mEven, b2i, c_2, c_8, mI3, kBoth, b2i]; exact fun h => absurd (mEc_t c_9) h)) (hj93 _ _ hI)
          ·
            refine lv_iload_n cx.1 cx.2.1 dX1_isEven_58 rfl (lv_at hl 1 rfl) ?_
            refine kb_eq (tgt := 92) cx dX1_isEven_59 (by decide) (fun c_10 => ?_) (fun c_10 => ?_)
            · refine lv_iconst (v := 0) cx.1 cx.2.1 dX1_isEven_92 (by decide) ?_
              exact k_top (by first | (simp [mEven, b2i, c_2, c_10, mI2, kBoth, b2i]; done) | (simp [mEven, b2i, c_2, mI2, kBoth, b2i]; exact fun h => absurd c_10 h)) (hj93 _ _ hI)
            · refine lv_aload_n cx.1 cx.2.1 dX1_isEven_62 rfl (lv_at hl 3 rfl) ?_
              refine mg_1 cx hI dX1_isEven_63 ?_
              refine lv_iconst (v := 3) cx.1 cx.2.1 dX1_isEven_66 (by decide) ?_
              refine lv_iload_n cx.1 cx.2.1 dX1_isEven_67 rfl (lv_at hl 4 rfl) ?_
              refine lv_imul cx.1 cx.2.1 dX1_isEven_68 ?_
              refine lv_iload cx.1 cx.2.1 dX1_isEven_69 (lv_at hl 0 rfl) ?_
              refine lv_iadd cx.1 cx.2.1 dX1_isEven_71 ?_
              refine ma_S cx hI (kidx hk (vp1 (by decide) (by decide))) dX1_isEven_72 ?_
              refine lv_aload_n cx.1 cx.2.1 dX1_isEven_73 rfl (lv_at hl 3 rfl) ?_
              refine lv_aload_n cx.1 cx.2.1 dX1_isEven_74 rfl (lv_at hl 3 rfl) ?_
              refine mg_0 cx hI dX1_isEven_75 ?_
              refine lv_iload_n cx.1 cx.2.1 dX1_isEven_78 rfl (lv_at hl 4 rfl) ?_
              refine ma_O cx hI hk dX1_isEven_79 ?_
              refine lv_iload cx.1 cx.2.1 dX1_isEven_80 (lv_at hl 0 rfl) ?_
              refine mc_i 2 cx (hl.1.trans hml.symm) (kX1_altered l D ca ad v (mO v key.toNatClampNeg) 1) hI wk_528 wk_525 wk_527 wq_28 ⟨rfl, by decide +kernel⟩ rfl ⟨rfl, rfl⟩ ⟨Nat.le_of_ble_eq_true rfl, Nat.le_of_ble_eq_true rfl⟩ (Nat.le_of_ble_eq_true rfl) dX1_isEven_82 ⟨Nat.zero_le _, Nat.zero_le _⟩ rfl (fun H locs hI => ?_)
              refine lv_icmp_ne (tgt := 92) cx.1 cx.2.1 dX1_isEven_85 (by decide) (fun c_11 => ?_) (fun c_11 => ?_)
              · refine lv_iconst (v := 0) cx.1 cx.2.1 dX1_isEven_92 (by decide) ?_
                exact k_top (by first | (simp [mEven, b2i, c_2, c_10, (mEc_f c_11), mI2, kBoth, b2i]; done) | (simp [mEven, b2i, c_2, c_10, mI2, kBoth, b2i]; exact fun h => absurd (mEc_f c_11) h)) (hj93 _ _ hI)
              · refine lv_iconst (v := 1) cx.1 cx.2.1 dX1_isEven_88 (by decide) ?_
                refine lv_goto (tgt := 93) cx.1 cx.2.1 dX1_isEven_89 (by decide) ?_
                exact k_top (by first | (simp [mEven, b2i, c_2, c_10, (mEc_t c_11), mI2, kBoth, b2i]; done) | (simp [mEven, b2i, c_2, c_10, mI2, kBoth, b2i]; exact fun h => absurd (mEc_t c_11) h)) (hj93 _ _ hI)
        ·
          refine lv_iload_n cx.1 cx.2.1 dX1_isEven_58 rfl (lv_at hl 1 rfl) ?_
          refine kb_eq (tgt := 92) cx dX1_isEven_59 (by decide) (fun c_12 => ?_) (fun c_12 => ?_)
          · refine lv_iconst (v := 0) cx.1 cx.2.1 dX1_isEven_92 (by decide) ?_
            exact k_top (by first | (simp [mEven, b2i, c_2, c_12, mI1, kBoth, b2i]; done) | (simp [mEven, b2i, c_2, mI1, kBoth, b2i]; exact fun h => absurd c_12 h)) (hj93 _ _ hI)
          · refine lv_aload_n cx.1 cx.2.1 dX1_isEven_62 rfl (lv_at hl 3 rfl) ?_
            refine mg_1 cx hI dX1_isEven_63 ?_
            refine lv_iconst (v := 3) cx.1 cx.2.1 dX1_isEven_66 (by decide) ?_
            refine lv_iload_n cx.1 cx.2.1 dX1_isEven_67 rfl (lv_at hl 4 rfl) ?_
            refine lv_imul cx.1 cx.2.1 dX1_isEven_68 ?_
            refine lv_iload cx.1 cx.2.1 dX1_isEven_69 (lv_at hl 0 rfl) ?_
            refine lv_iadd cx.1 cx.2.1 dX1_isEven_71 ?_
            refine ma_S cx hI (kidx hk (vp0 (by decide) (by decide))) dX1_isEven_72 ?_
            refine lv_aload_n cx.1 cx.2.1 dX1_isEven_73 rfl (lv_at hl 3 rfl) ?_
            refine lv_aload_n cx.1 cx.2.1 dX1_isEven_74 rfl (lv_at hl 3 rfl) ?_
            refine mg_0 cx hI dX1_isEven_75 ?_
            refine lv_iload_n cx.1 cx.2.1 dX1_isEven_78 rfl (lv_at hl 4 rfl) ?_
            refine ma_O cx hI hk dX1_isEven_79 ?_
            refine lv_iload cx.1 cx.2.1 dX1_isEven_80 (lv_at hl 0 rfl) ?_
            refine mc_i 2 cx (hl.1.trans hml.symm) (kX1_altered l D ca ad v (mO v key.toNatClampNeg) 0) hI wk_528 wk_525 wk_527 wq_28 ⟨rfl, by decide +kernel⟩ rfl ⟨rfl, rfl⟩ ⟨Nat.le_of_ble_eq_true rfl, Nat.le_of_ble_eq_true rfl⟩ (Nat.le_of_ble_eq_true rfl) dX1_isEven_82 ⟨Nat.zero_le _, Nat.zero_le _⟩ rfl (fun H locs hI => ?_)
            refine lv_icmp_ne (tgt := 92) cx.1 cx.2.1 dX1_isEven_85 (by decide) (fun c_13 => ?_) (fun c_13 => ?_)
            · refine lv_iconst (v := 0) cx.1 cx.2.1 dX1_isEven_92 (by decide) ?_
              exact k_top (by first | (simp [mEven, b2i, c_2, c_12, (mEc_f c_13), mI1, kBoth, b2i]; done) | (simp [mEven, b2i, c_2, c_12, mI1, kBoth, b2i]; exact fun h => absurd (mEc_f c_13) h)) (hj93 _ _ hI)
            · refine lv_iconst (v := 1) cx.1 cx.2.1 dX1_isEven_88 (by decide) ?_
              refine lv_goto (tgt := 93) cx.1 cx.2.1 dX1_isEven_89 (by decide) ?_
              exact k_top (by first | (simp [mEven, b2i, c_2, c_12, (mEc_t c_13), mI1, kBoth, b2i]; done) | (simp [mEven, b2i, c_2, c_12, mI1, kBoth, b2i]; exact fun h => absurd (mEc_t c_13) h)) (hj93 _ _ hI)
    ·
      refine lv_iload_n cx.1 cx.2.1 dX1_isEven_29 rfl (lv_at hl 0 rfl) ?_
      refine lv_aload_n cx.1 cx.2.1 dX1_isEven_30 rfl (lv_at hl 1 rfl) ?_
      refine mg_2 cx hI dX1_isEven_31 ?_
      refine lv_iload_n cx.1 cx.2.1 dX1_isEven_34 rfl (lv_at hl 2 rfl) ?_
      refine ma_H cx hI hk dX1_isEven_35 ?_
      refine lv_icmp_ne (tgt := 43) cx.1 cx.2.1 dX1_isEven_36 (by decide) (fun c_14 => ?_) (fun c_14 => ?_)
      · refine lv_iconst (v := 0) cx.1 cx.2.1 dX1_isEven_43 (by decide) ?_
        exact k_top (by first | (simp [mEven, b2i, (mE0_f c_14), b2i]; done) | (simp [mEven, b2i, b2i]; exact fun h => absurd (mE0_f c_14) h)) (hj44 _ _ hI)
      · refine lv_iconst (v := 1) cx.1 cx.2.1 dX1_isEven_39 (by decide) ?_
        refine lv_goto (tgt := 44) cx.1 cx.2.1 dX1_isEven_40 (by decide) ?_
        exact k_top (by first | (simp [mEven, b2i, (mE0_t c_14), b2i]; done) | (simp [mEven, b2i, b2i]; exact fun h => absurd (mE0_t c_14) h)) (hj44 _ _ hI)
  ·
    refine lv_aload_n cx.1 cx.2.1 dX1_isEven_0 rfl (lv_at hl 0 rfl) ?_
    refine mg_0 cx hI dX1_isEven_1 ?_
    refine lv_iload_n cx.1 cx.2.1 dX1_isEven_4 rfl (lv_at hl 1 rfl) ?_
    refine ma_O cx hI hk dX1_isEven_5 ?_
    refine lv_iconst (v := (-1)) cx.1 cx.2.1 dX1_isEven_6 (by decide) ?_
    refine lv_icmp_eq (tgt := 27) cx.1 cx.2.1 dX1_isEven_7 (by decide) (fun c_15 => ?_) (fun c_15 => ?_)
    · refine lv_iconst (v := 0) cx.1 cx.2.1 dX1_isEven_27 (by decide) ?_
      exact k_top (by first | (simp [mEven, b2i, c_15, mDue, b2i]; done) | (simp [mEven, b2i, mDue, b2i]; exact fun h => absurd c_15 h)) (hj28 _ _ hI)
    · refine lv_aload_n cx.1 cx.2.1 dX1_isEven_10 rfl (lv_at hl 0 rfl) ?_
      refine lv_aload_n cx.1 cx.2.1 dX1_isEven_11 rfl (lv_at hl 0 rfl) ?_
      refine mg_0 cx hI dX1_isEven_12 ?_
      refine lv_iload_n cx.1 cx.2.1 dX1_isEven_15 rfl (lv_at hl 1 rfl) ?_
      refine ma_O cx hI hk dX1_isEven_16 ?_
      refine mc_i 1 cx (hl.1.trans hml.symm) (kX1_suits l D ca ad v (mO v key.toNatClampNeg)) hI wk_504 wk_501 wk_503 wq_22 ⟨rfl, by decide +kernel⟩ rfl ⟨rfl, rfl⟩ ⟨Nat.le_of_ble_eq_true rfl, Nat.le_of_ble_eq_true rfl⟩ (Nat.le_of_ble_eq_true rfl) dX1_isEven_17 ⟨Nat.zero_le _, Nat.zero_le _⟩ rfl (fun H locs hI => ?_)
      refine kb_eq (tgt := 27) cx dX1_isEven_20 (by decide) (fun c_16 => ?_) (fun c_16 => ?_)
      · refine lv_iconst (v := 0) cx.1 cx.2.1 dX1_isEven_27 (by decide) ?_
        exact k_top (by first | (simp [mEven, b2i, c_15, c_16, mDue, b2i]; done) | (simp [mEven, b2i, c_15, mDue, b2i]; exact fun h => absurd c_16 h)) (hj28 _ _ hI)
      · refine lv_iconst (v := 1) cx.1 cx.2.1 dX1_isEven_23 (by decide) ?_
        refine lv_goto (tgt := 28) cx.1 cx.2.1 dX1_isEven_24 (by decide) ?_
        exact k_top (by first | (simp [mEven, b2i, c_15, c_16, mDue, b2i]; done) | (simp [mEven, b2i, c_15, mDue, b2i]; exact fun h => absurd c_16 h)) (hj28 _ _ hI)

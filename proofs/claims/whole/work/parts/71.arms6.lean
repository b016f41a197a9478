set_option maxHeartbeats 4000000 in
set_option maxRecDepth 100000 in
theorem ka_sum (l : Launch) {p : Program} {e : Env} {s : State} {m : MethodId} {below : List Frame} {meth : Method} {c : Code} {H : Heap} {locs : List Loc} {cells slots : Nat} {Q : State → Prop} {ls : Array Slot} {D : va_G} {ca : Nat → ClassId} {xa ma : Nat → Nat} {A : Nat → Prop} {oa b L k : Nat} {xs : Nat → Int32} {f : Nat → Int64} {v : XS} {w : MS} (cx : KC p c code s #[Value.ref b] m RL D ca) (hml : c.maxLocals = 7) (hE : KE A s s.heap) (hlS : l.stackTraces = false) (hX : va_X b L xs s s.heap) (hbl : b < s.heap.size) (hbA : ¬ A b) (hL : L ≤ 2048) (hi : 4 * k + 4 ≤ L) (hf : cells + 1 ≤ room_1.cells ∧ slots + 6 ≤ room_1.slots) (hI : KI D A (ow oa ca f ++ (xw xa ca v ++ mw ma ca w)) s.heap H locs) (hS : SR (2 * k) v w) (hl : lv_has ls 7 [(4, .int (nI (4 * k))), (0, .ref b), (1, .ref (xa 0)), (2, .ref (ma 0)), (3, .ref oa)]) (kk : LBk l p e s m below meth c D ca xa ma A oa b k (cells + 1) (slots + 6) Q) : W p l e room_1 s m #[Value.ref b] below meth c H locs cells slots Q (F0 m 949 ls []) := by
  refine lv_aload_n cx.1 cx.2.1 dL_law_949 rfl (lv_at hl 2 rfl) ?_
  refine lv_aload_n cx.1 cx.2.1 dL_law_950 rfl (lv_at hl 1 rfl) ?_
  refine lv_iload cx.1 cx.2.1 dL_law_951 (lv_at hl 0 rfl) ?_
  refine lv_iconst (v := 1) cx.1 cx.2.1 dL_law_953 (by decide) ?_
  refine lv_iadd cx.1 cx.2.1 dL_law_954 ?_
  refine k_sld 1 cx hX hbl hbA hI rfl (by omega) hL dL_law_955 ?_
  refine lv_aload_n cx.1 cx.2.1 dL_law_956 rfl (lv_at hl 4 rfl) ?_
  refine k_callH 3 [] (mw ma ca w) cx hE (hl.1.trans hml.symm) (kL_sum l D ca xa oa f v (xs (4 * k + 1)) hlS) hI rfl (W1 := (ow oa ca (kOf (xfCol (xs (4 * k + 1))) f (xSum v (xs (4 * k + 1)) 40).toInt64) ++ (xw xa ca (kSt (xfCol (xs (4 * k + 1))) v v) ++ mw ma ca w))) rfl ox_ad wk_424 wk_422 wk_423 wk_0 ⟨by decide, by decide, by decide +kernel⟩ rfl ⟨rfl, rfl⟩ ⟨Nat.le_of_ble_eq_true rfl, Nat.le_of_ble_eq_true rfl⟩ (Nat.le_of_ble_eq_true rfl) dL_law_957 hf rfl (fun H locs hI => ?_)
  refine lv_istore (lv' := [(5, .int (nI (xfCol (xs (4 * k + 1))))), (4, .int (nI (4 * k))), (0, .ref b), (1, .ref (xa 0)), (2, .ref (ma 0)), (3, .ref oa)]) cx.1 cx.2.1 dL_law_960 hl (by decide) rfl (fun ls hl => ?_)
  refine lv_aload_n cx.1 cx.2.1 dL_law_962 rfl (lv_at hl 4 rfl) ?_
  refine lv_aload_n cx.1 cx.2.1 dL_law_963 rfl (lv_at hl 2 rfl) ?_
  refine lv_iload cx.1 cx.2.1 dL_law_964 (lv_at hl 1 rfl) ?_
  refine lv_iconst (v := 1) cx.1 cx.2.1 dL_law_966 (by decide) ?_
  refine lv_iadd cx.1 cx.2.1 dL_law_967 ?_
  refine k_sld 1 cx hX hbl hbA hI rfl (by omega) hL dL_law_968 ?_
  refine k_callV (C := RX1) (T := TX1) (N := 13) (ci := 1) 1 (ow oa ca (kOf (xfCol (xs (4 * k + 1))) f (xSum v (xs (4 * k + 1)) 40).toInt64) ++ xw xa ca (kSt (xfCol (xs (4 * k + 1))) v v)) [] cx (hl.1.trans hml.symm) (kX1_sum l D ca ma w (xs (4 * k + 1))) hI rfl (W1 := (ow oa ca (kOf (xfCol (xs (4 * k + 1))) f (xSum v (xs (4 * k + 1)) 40).toInt64) ++ (xw xa ca (kSt (xfCol (xs (4 * k + 1))) v v) ++ mw ma ca (mUz w (mfCol (xs (4 * k + 1))))))) rfl mw_ad rfl rfl wk_630 wk_627 wk_628 wk_629 wk_3 ⟨rfl, by decide, by decide, by decide +kernel⟩ rfl ⟨rfl, rfl⟩ ⟨Nat.le_of_ble_eq_true rfl, Nat.le_of_ble_eq_true rfl⟩ (Nat.le_of_ble_eq_true rfl) dL_law_969 hf rfl (fun H locs hI => ?_)
  refine lv_istore (lv' := [(6, .int (if mfCol (xs (4 * k + 1)) = 0 then mSum w (xs (4 * k + 1)) 40 else 0)), (5, .int (nI (xfCol (xs (4 * k + 1))))), (4, .int (nI (4 * k))), (0, .ref b), (1, .ref (xa 0)), (2, .ref (ma 0)), (3, .ref oa)]) cx.1 cx.2.1 dL_law_972 hl (by decide) rfl (fun ls hl => ?_)
  refine lv_aload_n cx.1 cx.2.1 dL_law_974 rfl (lv_at hl 5 rfl) ?_
  refine k_callV (C := RX1) (T := TX1) (N := 13) (ci := 1) 0 (ow oa ca (kOf (xfCol (xs (4 * k + 1))) f (xSum v (xs (4 * k + 1)) 40).toInt64) ++ xw xa ca (kSt (xfCol (xs (4 * k + 1))) v v)) [] cx (hl.1.trans hml.symm) (kX1_thrown l D ca ma (mUz w (mfCol (xs (4 * k + 1))))) hI rfl (W1 := (ow oa ca (kOf (xfCol (xs (4 * k + 1))) f (xSum v (xs (4 * k + 1)) 40).toInt64) ++ (xw xa ca (kSt (xfCol (xs (4 * k + 1))) v v) ++ mw ma ca (mUz w (mfCol (xs (4 * k + 1))))))) rfl mw_ad rfl rfl wk_486 wk_483 wk_484 wk_485 wk_3 ⟨rfl, by decide, by decide, by decide +kernel⟩ rfl ⟨rfl, rfl⟩ ⟨Nat.le_of_ble_eq_true rfl, Nat.le_of_ble_eq_true rfl⟩ (Nat.le_of_ble_eq_true rfl) dL_law_975 hf rfl (fun H locs hI => ?_)
  refine k_top (y := nI (xfCol (xs (4 * k + 1)))) ((rfl).trans (f_col _)) ?_
  refine lv_iload cx.1 cx.2.1 dL_law_978 (lv_at hl 1 rfl) ?_
  refine lv_icmp_eq (tgt := 985) cx.1 cx.2.1 dL_law_980 (by decide) (fun _ => ?_) (fun h9 => absurd rfl h9)
  refine lv_iload cx.1 cx.2.1 dL_law_985 (lv_at hl 1 rfl) ?_
  refine lv_if_ne (tgt := 1002) cx.1 cx.2.1 dL_law_987 (by decide) (fun _ => ?_) (fun h9 => ?_)
  · refine lv_goto (tgt := 1061) cx.1 cx.2.1 dL_law_1002 (by decide) ?_
    exact kk _ _ _ _ _ _ hI (SR_up (SR_same hS (xfCol (xs (4 * k + 1))) _) (by omega)) (lv_sub hl [2, 3, 4, 5, 6] rfl)
  · have h9 := fn0 h9 (xfCol_s (xs (4 * k + 1)))
    refine lv_aload_n cx.1 cx.2.1 dL_law_990 rfl (lv_at hl 6 rfl) ?_
    refine lv_iconst (v := 0) cx.1 cx.2.1 dL_law_991 (by decide) ?_
    refine kl_ld cx hI dL_law_992 ?_
    refine lv_iload cx.1 cx.2.1 dL_law_993 (lv_at hl 0 rfl) ?_
    refine lv_i2l cx.1 cx.2.1 dL_law_995 rfl ?_
    refine W.lcmp cx.1 cx.2.1 dL_law_996 ?_
    refine k_top (y := 0) (kl_cmp h9 (congrArg Int32.toInt64 (A_sum hS _ h9))) ?_
    refine lv_if_eq (tgt := 1002) cx.1 cx.2.1 dL_law_997 (by decide) (fun _ => ?_) (fun h8 => absurd rfl h8)
    refine lv_goto (tgt := 1061) cx.1 cx.2.1 dL_law_1002 (by decide) ?_
    exact kk _ _ _ _ _ _ hI (SR_up (SR_same hS (xfCol (xs (4 * k + 1))) _) (by omega)) (lv_sub hl [2, 3, 4, 5, 6] rfl)
set_option maxHeartbeats 4000000 in
set_option maxRecDepth 100000 in
theorem ka_sumAtOnce (l : Launch) {p : Program} {e : Env} {s : State} {m : MethodId} {below : List Frame} {meth : Method} {c : Code} {H : Heap} {locs : List Loc} {cells slots : Nat} {Q : State → Prop} {ls : Array Slot} {D : va_G} {ca : Nat → ClassId} {xa ma : Nat → Nat} {A : Nat → Prop} {oa b L k : Nat} {xs : Nat → Int32} {f : Nat → Int64} {v : XS} {w : MS} (cx : KC p c code s #[Value.ref b] m RL D ca) (hml : c.maxLocals = 7) (hE : KE A s s.heap) (hlS : l.stackTraces = false) (hX : va_X b L xs s s.heap) (hbl : b < s.heap.size) (hbA : ¬ A b) (hL : L ≤ 2048) (hi : 4 * k + 4 ≤ L) (hf : cells + 1 ≤ room_1.cells ∧ slots + 6 ≤ room_1.slots) (hI : KI D A (ow oa ca f ++ (xw xa ca v ++ mw ma ca w)) s.heap H locs) (hS : SR (2 * k) v w) (hl : lv_has ls 7 [(4, .int (nI (4 * k))), (0, .ref b), (1, .ref (xa 0)), (2, .ref (ma 0)), (3, .ref oa)]) (kk : LBk l p e s m below meth c D ca xa ma A oa b k (cells + 1) (slots + 6) Q) : W p l e room_1 s m #[Value.ref b] below meth c H locs cells slots Q (F0 m 1005 ls []) := by
  refine lv_aload_n cx.1 cx.2.1 dL_law_1005 rfl (lv_at hl 2 rfl) ?_
  refine lv_aload_n cx.1 cx.2.1 dL_law_1006 rfl (lv_at hl 1 rfl) ?_
  refine lv_iload cx.1 cx.2.1 dL_law_1007 (lv_at hl 0 rfl) ?_
  refine lv_iconst (v := 1) cx.1 cx.2.1 dL_law_1009 (by decide) ?_
  refine lv_iadd cx.1 cx.2.1 dL_law_1010 ?_
  refine k_sld 1 cx hX hbl hbA hI rfl (by omega) hL dL_law_1011 ?_
  refine lv_aload_n cx.1 cx.2.1 dL_law_1012 rfl (lv_at hl 4 rfl) ?_
  refine k_callH 3 [] (mw ma ca w) cx hE (hl.1.trans hml.symm) (kL_sumAtOnce l D ca xa oa f v (xs (4 * k + 1)) hlS) hI rfl (W1 := (ow oa ca (kOf (xfCol (xs (4 * k + 1))) f (if xp v = 0 then 0 else xSumAt v (xs (4 * k + 1)) 40).toInt64) ++ (xw xa ca (kSt (xfCol (xs (4 * k + 1))) v v) ++ mw ma ca w))) rfl ox_ad wk_432 wk_430 wk_431 wk_0 ⟨by decide, by decide, by decide +kernel⟩ rfl ⟨rfl, rfl⟩ ⟨Nat.le_of_ble_eq_true rfl, Nat.le_of_ble_eq_true rfl⟩ (Nat.le_of_ble_eq_true rfl) dL_law_1013 hf rfl (fun H locs hI => ?_)
  refine lv_istore (lv' := [(5, .int (nI (xfCol (xs (4 * k + 1))))), (4, .int (nI (4 * k))), (0, .ref b), (1, .ref (xa 0)), (2, .ref (ma 0)), (3, .ref oa)]) cx.1 cx.2.1 dL_law_1016 hl (by decide) rfl (fun ls hl => ?_)
  refine lv_aload_n cx.1 cx.2.1 dL_law_1018 rfl (lv_at hl 4 rfl) ?_
  refine lv_aload_n cx.1 cx.2.1 dL_law_1019 rfl (lv_at hl 2 rfl) ?_
  refine lv_iload cx.1 cx.2.1 dL_law_1020 (lv_at hl 1 rfl) ?_
  refine lv_iconst (v := 1) cx.1 cx.2.1 dL_law_1022 (by decide) ?_
  refine lv_iadd cx.1 cx.2.1 dL_law_1023 ?_
  refine k_sld 1 cx hX hbl hbA hI rfl (by omega) hL dL_law_1024 ?_
  refine k_callV (C := RX1) (T := TX1) (N := 13) (ci := 1) 1 (ow oa ca (kOf (xfCol (xs (4 * k + 1))) f (if xp v = 0 then 0 else xSumAt v (xs (4 * k + 1)) 40).toInt64) ++ xw xa ca (kSt (xfCol (xs (4 * k + 1))) v v)) [] cx (hl.1.trans hml.symm) (kX1_sumAtOnce l D ca ma w (xs (4 * k + 1))) hI rfl (W1 := (ow oa ca (kOf (xfCol (xs (4 * k + 1))) f (if xp v = 0 then 0 else xSumAt v (xs (4 * k + 1)) 40).toInt64) ++ (xw xa ca (kSt (xfCol (xs (4 * k + 1))) v v) ++ mw ma ca (mUz w (mfCol (xs (4 * k + 1))))))) rfl mw_ad rfl rfl wk_634 wk_631 wk_632 wk_633 wk_3 ⟨rfl, by decide, by decide, by decide +kernel⟩ rfl ⟨rfl, rfl⟩ ⟨Nat.le_of_ble_eq_true rfl, Nat.le_of_ble_eq_true rfl⟩ (Nat.le_of_ble_eq_true rfl) dL_law_1025 hf rfl (fun H locs hI => ?_)
  refine lv_istore (lv' := [(6, .int (if mfCol (xs (4 * k + 1)) = 0 then (if mp w = 0 then 0 else mSumAt w (xs (4 * k + 1)) 40) else 0)), (5, .int (nI (xfCol (xs (4 * k + 1))))), (4, .int (nI (4 * k))), (0, .ref b), (1, .ref (xa 0)), (2, .ref (ma 0)), (3, .ref oa)]) cx.1 cx.2.1 dL_law_1028 hl (by decide) rfl (fun ls hl => ?_)
  refine lv_aload_n cx.1 cx.2.1 dL_law_1030 rfl (lv_at hl 5 rfl) ?_
  refine k_callV (C := RX1) (T := TX1) (N := 13) (ci := 1) 0 (ow oa ca (kOf (xfCol (xs (4 * k + 1))) f (if xp v = 0 then 0 else xSumAt v (xs (4 * k + 1)) 40).toInt64) ++ xw xa ca (kSt (xfCol (xs (4 * k + 1))) v v)) [] cx (hl.1.trans hml.symm) (kX1_thrown l D ca ma (mUz w (mfCol (xs (4 * k + 1))))) hI rfl (W1 := (ow oa ca (kOf (xfCol (xs (4 * k + 1))) f (if xp v = 0 then 0 else xSumAt v (xs (4 * k + 1)) 40).toInt64) ++ (xw xa ca (kSt (xfCol (xs (4 * k + 1))) v v) ++ mw ma ca (mUz w (mfCol (xs (4 * k + 1))))))) rfl mw_ad rfl rfl wk_486 wk_483 wk_484 wk_485 wk_3 ⟨rfl, by decide, by decide, by decide +kernel⟩ rfl ⟨rfl, rfl⟩ ⟨Nat.le_of_ble_eq_true rfl, Nat.le_of_ble_eq_true rfl⟩ (Nat.le_of_ble_eq_true rfl) dL_law_1031 hf rfl (fun H locs hI => ?_)
  refine k_top (y := nI (xfCol (xs (4 * k + 1)))) ((rfl).trans (f_col _)) ?_
  refine lv_iload cx.1 cx.2.1 dL_law_1034 (lv_at hl 1 rfl) ?_
  refine lv_icmp_eq (tgt := 1041) cx.1 cx.2.1 dL_law_1036 (by decide) (fun _ => ?_) (fun h9 => absurd rfl h9)
  refine lv_iload cx.1 cx.2.1 dL_law_1041 (lv_at hl 1 rfl) ?_
  refine lv_if_ne (tgt := 1058) cx.1 cx.2.1 dL_law_1043 (by decide) (fun _ => ?_) (fun h9 => ?_)
  · refine lv_goto (tgt := 1061) cx.1 cx.2.1 dL_law_1058 (by decide) ?_
    exact kk _ _ _ _ _ _ hI (SR_up (SR_same hS (xfCol (xs (4 * k + 1))) _) (by omega)) (lv_sub hl [2, 3, 4, 5, 6] rfl)
  · have h9 := fn0 h9 (xfCol_s (xs (4 * k + 1)))
    refine lv_aload_n cx.1 cx.2.1 dL_law_1046 rfl (lv_at hl 6 rfl) ?_
    refine lv_iconst (v := 0) cx.1 cx.2.1 dL_law_1047 (by decide) ?_
    refine kl_ld cx hI dL_law_1048 ?_
    refine lv_iload cx.1 cx.2.1 dL_law_1049 (lv_at hl 0 rfl) ?_
    refine lv_i2l cx.1 cx.2.1 dL_law_1051 rfl ?_
    refine W.lcmp cx.1 cx.2.1 dL_law_1052 ?_
    refine k_top (y := 0) (kl_cmp h9 (congrArg Int32.toInt64 (A_sumAt hS _ h9))) ?_
    refine lv_if_eq (tgt := 1058) cx.1 cx.2.1 dL_law_1053 (by decide) (fun _ => ?_) (fun h8 => absurd rfl h8)
    refine lv_goto (tgt := 1061) cx.1 cx.2.1 dL_law_1058 (by decide) ?_
    exact kk _ _ _ _ _ _ hI (SR_up (SR_same hS (xfCol (xs (4 * k + 1))) _) (by omega)) (lv_sub hl [2, 3, 4, 5, 6] rfl)

set_option maxHeartbeats 4000000 in
set_option maxRecDepth 100000 in
theorem ka_row (l : Launch) {p : Program} {e : Env} {s : State} {m : MethodId} {below : List Frame} {meth : Method} {c : Code} {H : Heap} {locs : List Loc} {cells slots : Nat} {Q : State → Prop} {ls : Array Slot} {D : va_G} {ca : Nat → ClassId} {xa ma : Nat → Nat} {A : Nat → Prop} {oa b L k : Nat} {xs : Nat → Int32} {f : Nat → Int64} {v : XS} {w : MS} (cx : KC p c code s #[Value.ref b] m RL D ca) (hml : c.maxLocals = 7) (hE : KE A s s.heap) (hlS : l.stackTraces = false) (hX : va_X b L xs s s.heap) (hbl : b < s.heap.size) (hbA : ¬ A b) (hL : L ≤ 2048) (hi : 4 * k + 4 ≤ L) (hf : cells + 1 ≤ room_1.cells ∧ slots + 6 ≤ room_1.slots) (hI : KI D A (ow oa ca f ++ (xw xa ca v ++ mw ma ca w)) s.heap H locs) (hS : SR (2 * k) v w) (hl : lv_has ls 7 [(4, .int (nI (4 * k))), (0, .ref b), (1, .ref (xa 0)), (2, .ref (ma 0)), (3, .ref oa)]) (kk : LBk l p e s m below meth c D ca xa ma A oa b k (cells + 1) (slots + 6) Q) : W p l e room_1 s m #[Value.ref b] below meth c H locs cells slots Q (F0 m 684 ls []) := by
  refine lv_aload_n cx.1 cx.2.1 dL_law_684 rfl (lv_at hl 2 rfl) ?_
  refine lv_aload_n cx.1 cx.2.1 dL_law_685 rfl (lv_at hl 1 rfl) ?_
  refine lv_iload cx.1 cx.2.1 dL_law_686 (lv_at hl 0 rfl) ?_
  refine lv_iconst (v := 1) cx.1 cx.2.1 dL_law_688 (by decide) ?_
  refine lv_iadd cx.1 cx.2.1 dL_law_689 ?_
  refine k_sld 1 cx hX hbl hbA hI rfl (by omega) hL dL_law_690 ?_
  refine lv_aload_n cx.1 cx.2.1 dL_law_691 rfl (lv_at hl 4 rfl) ?_
  refine k_callH 3 [] (mw ma ca w) cx hE (hl.1.trans hml.symm) (kL_row l D ca xa oa f v (xs (4 * k + 1)) hlS) hI rfl (W1 := (ow oa ca (kOf (xfKey (xs (4 * k + 1))) f (if xSeen v (xs (4 * k + 1)) then xRow v (xs (4 * k + 1)) else -1).toInt64) ++ (xw xa ca (kSt (xfKey (xs (4 * k + 1))) v v) ++ mw ma ca w))) rfl ox_ad wk_399 wk_397 wk_398 wk_0 ⟨by decide, by decide, by decide +kernel⟩ rfl ⟨rfl, rfl⟩ ⟨Nat.le_of_ble_eq_true rfl, Nat.le_of_ble_eq_true rfl⟩ (Nat.le_of_ble_eq_true rfl) dL_law_692 hf rfl (fun H locs hI => ?_)
  refine lv_istore (lv' := [(5, .int (nI (xfKey (xs (4 * k + 1))))), (4, .int (nI (4 * k))), (0, .ref b), (1, .ref (xa 0)), (2, .ref (ma 0)), (3, .ref oa)]) cx.1 cx.2.1 dL_law_695 hl (by decide) rfl (fun ls hl => ?_)
  refine lv_aload_n cx.1 cx.2.1 dL_law_697 rfl (lv_at hl 4 rfl) ?_
  refine lv_aload_n cx.1 cx.2.1 dL_law_698 rfl (lv_at hl 2 rfl) ?_
  refine lv_iload cx.1 cx.2.1 dL_law_699 (lv_at hl 1 rfl) ?_
  refine lv_iconst (v := 1) cx.1 cx.2.1 dL_law_701 (by decide) ?_
  refine lv_iadd cx.1 cx.2.1 dL_law_702 ?_
  refine k_sld 1 cx hX hbl hbA hI rfl (by omega) hL dL_law_703 ?_
  refine k_callV (C := RX1) (T := TX1) (N := 13) (ci := 1) 1 (ow oa ca (kOf (xfKey (xs (4 * k + 1))) f (if xSeen v (xs (4 * k + 1)) then xRow v (xs (4 * k + 1)) else -1).toInt64) ++ xw xa ca (kSt (xfKey (xs (4 * k + 1))) v v)) [] cx (hl.1.trans hml.symm) (kX1_row l D ca ma w (xs (4 * k + 1))) hI rfl (W1 := (ow oa ca (kOf (xfKey (xs (4 * k + 1))) f (if xSeen v (xs (4 * k + 1)) then xRow v (xs (4 * k + 1)) else -1).toInt64) ++ (xw xa ca (kSt (xfKey (xs (4 * k + 1))) v v) ++ mw ma ca (mUz w (mfKey (xs (4 * k + 1))))))) rfl mw_ad rfl rfl wk_587 wk_584 wk_585 wk_586 wk_3 ⟨rfl, by decide, by decide, by decide +kernel⟩ rfl ⟨rfl, rfl⟩ ⟨Nat.le_of_ble_eq_true rfl, Nat.le_of_ble_eq_true rfl⟩ (Nat.le_of_ble_eq_true rfl) dL_law_704 hf rfl (fun H locs hI => ?_)
  refine lv_istore (lv' := [(6, .int (if mfKey (xs (4 * k + 1)) = 0 then (if mSeen w (xs (4 * k + 1)) then mO w (xs (4 * k + 1)).toNatClampNeg else -1) else 0)), (5, .int (nI (xfKey (xs (4 * k + 1))))), (4, .int (nI (4 * k))), (0, .ref b), (1, .ref (xa 0)), (2, .ref (ma 0)), (3, .ref oa)]) cx.1 cx.2.1 dL_law_707 hl (by decide) rfl (fun ls hl => ?_)
  refine lv_aload_n cx.1 cx.2.1 dL_law_709 rfl (lv_at hl 5 rfl) ?_
  refine k_callV (C := RX1) (T := TX1) (N := 13) (ci := 1) 0 (ow oa ca (kOf (xfKey (xs (4 * k + 1))) f (if xSeen v (xs (4 * k + 1)) then xRow v (xs (4 * k + 1)) else -1).toInt64) ++ xw xa ca (kSt (xfKey (xs (4 * k + 1))) v v)) [] cx (hl.1.trans hml.symm) (kX1_thrown l D ca ma (mUz w (mfKey (xs (4 * k + 1))))) hI rfl (W1 := (ow oa ca (kOf (xfKey (xs (4 * k + 1))) f (if xSeen v (xs (4 * k + 1)) then xRow v (xs (4 * k + 1)) else -1).toInt64) ++ (xw xa ca (kSt (xfKey (xs (4 * k + 1))) v v) ++ mw ma ca (mUz w (mfKey (xs (4 * k + 1))))))) rfl mw_ad rfl rfl wk_486 wk_483 wk_484 wk_485 wk_3 ⟨rfl, by decide, by decide, by decide +kernel⟩ rfl ⟨rfl, rfl⟩ ⟨Nat.le_of_ble_eq_true rfl, Nat.le_of_ble_eq_true rfl⟩ (Nat.le_of_ble_eq_true rfl) dL_law_710 hf rfl (fun H locs hI => ?_)
  refine k_top (y := nI (xfKey (xs (4 * k + 1)))) ((rfl).trans (f_key _)) ?_
  refine lv_iload cx.1 cx.2.1 dL_law_713 (lv_at hl 1 rfl) ?_
  refine lv_icmp_eq (tgt := 720) cx.1 cx.2.1 dL_law_715 (by decide) (fun _ => ?_) (fun h9 => absurd rfl h9)
  refine lv_iload cx.1 cx.2.1 dL_law_720 (lv_at hl 1 rfl) ?_
  refine lv_if_ne (tgt := 737) cx.1 cx.2.1 dL_law_722 (by decide) (fun _ => ?_) (fun h9 => ?_)
  · refine lv_goto (tgt := 1061) cx.1 cx.2.1 dL_law_737 (by decide) ?_
    exact kk _ _ _ _ _ _ hI (SR_up (SR_same hS (xfKey (xs (4 * k + 1))) _) (by omega)) (lv_sub hl [2, 3, 4, 5, 6] rfl)
  · have h9 := fn0 h9 (xfKey_s (xs (4 * k + 1)))
    refine lv_aload_n cx.1 cx.2.1 dL_law_725 rfl (lv_at hl 6 rfl) ?_
    refine lv_iconst (v := 0) cx.1 cx.2.1 dL_law_726 (by decide) ?_
    refine kl_ld cx hI dL_law_727 ?_
    refine lv_iload cx.1 cx.2.1 dL_law_728 (lv_at hl 0 rfl) ?_
    refine lv_i2l cx.1 cx.2.1 dL_law_730 rfl ?_
    refine W.lcmp cx.1 cx.2.1 dL_law_731 ?_
    refine k_top (y := 0) (kl_cmp h9 (congrArg Int32.toInt64 (A_row hS _ h9))) ?_
    refine lv_if_eq (tgt := 737) cx.1 cx.2.1 dL_law_732 (by decide) (fun _ => ?_) (fun h8 => absurd rfl h8)
    refine lv_goto (tgt := 1061) cx.1 cx.2.1 dL_law_737 (by decide) ?_
    exact kk _ _ _ _ _ _ hI (SR_up (SR_same hS (xfKey (xs (4 * k + 1))) _) (by omega)) (lv_sub hl [2, 3, 4, 5, 6] rfl)
set_option maxHeartbeats 4000000 in
set_option maxRecDepth 100000 in
theorem ka_shadow (l : Launch) {p : Program} {e : Env} {s : State} {m : MethodId} {below : List Frame} {meth : Method} {c : Code} {H : Heap} {locs : List Loc} {cells slots : Nat} {Q : State → Prop} {ls : Array Slot} {D : va_G} {ca : Nat → ClassId} {xa ma : Nat → Nat} {A : Nat → Prop} {oa b L k : Nat} {xs : Nat → Int32} {f : Nat → Int64} {v : XS} {w : MS} (cx : KC p c code s #[Value.ref b] m RL D ca) (hml : c.maxLocals = 7) (hE : KE A s s.heap) (hlS : l.stackTraces = false) (hX : va_X b L xs s s.heap) (hbl : b < s.heap.size) (hbA : ¬ A b) (hL : L ≤ 2048) (hi : 4 * k + 4 ≤ L) (hf : cells + 1 ≤ room_1.cells ∧ slots + 6 ≤ room_1.slots) (hI : KI D A (ow oa ca f ++ (xw xa ca v ++ mw ma ca w)) s.heap H locs) (hS : SR (2 * k) v w) (hl : lv_has ls 7 [(4, .int (nI (4 * k))), (0, .ref b), (1, .ref (xa 0)), (2, .ref (ma 0)), (3, .ref oa)]) (kk : LBk l p e s m below meth c D ca xa ma A oa b k (cells + 1) (slots + 6) Q) : W p l e room_1 s m #[Value.ref b] below meth c H locs cells slots Q (F0 m 792 ls []) := by
  refine lv_aload_n cx.1 cx.2.1 dL_law_792 rfl (lv_at hl 2 rfl) ?_
  refine lv_aload_n cx.1 cx.2.1 dL_law_793 rfl (lv_at hl 1 rfl) ?_
  refine lv_iload cx.1 cx.2.1 dL_law_794 (lv_at hl 0 rfl) ?_
  refine lv_iconst (v := 1) cx.1 cx.2.1 dL_law_796 (by decide) ?_
  refine lv_iadd cx.1 cx.2.1 dL_law_797 ?_
  refine k_sld 1 cx hX hbl hbA hI rfl (by omega) hL dL_law_798 ?_
  refine lv_aload_n cx.1 cx.2.1 dL_law_799 rfl (lv_at hl 1 rfl) ?_
  refine lv_iload cx.1 cx.2.1 dL_law_800 (lv_at hl 0 rfl) ?_
  refine lv_iconst (v := 2) cx.1 cx.2.1 dL_law_802 (by decide) ?_
  refine lv_iadd cx.1 cx.2.1 dL_law_803 ?_
  refine k_sld 2 cx hX hbl hbA hI rfl (by omega) hL dL_law_804 ?_
  refine lv_aload_n cx.1 cx.2.1 dL_law_805 rfl (lv_at hl 4 rfl) ?_
  refine k_callH 4 [] (mw ma ca w) cx hE (hl.1.trans hml.symm) (kL_shadow l D ca xa oa f v (xs (4 * k + 1)) (xs (4 * k + 2)) hlS) hI rfl (W1 := (ow oa ca (kOf (xfShadow (xs (4 * k + 1)) (xs (4 * k + 2))) f (xC v (xs (4 * k + 2)).toNatClampNeg (xs (4 * k + 1)).toNatClampNeg).toInt64) ++ (xw xa ca (kSt (xfShadow (xs (4 * k + 1)) (xs (4 * k + 2))) v v) ++ mw ma ca w))) rfl ox_ad wk_406 wk_404 wk_405 wk_0 ⟨by decide, by decide, by decide +kernel⟩ rfl ⟨rfl, rfl⟩ ⟨Nat.le_of_ble_eq_true rfl, Nat.le_of_ble_eq_true rfl⟩ (Nat.le_of_ble_eq_true rfl) dL_law_806 hf rfl (fun H locs hI => ?_)
  refine lv_istore (lv' := [(5, .int (nI (xfShadow (xs (4 * k + 1)) (xs (4 * k + 2))))), (4, .int (nI (4 * k))), (0, .ref b), (1, .ref (xa 0)), (2, .ref (ma 0)), (3, .ref oa)]) cx.1 cx.2.1 dL_law_809 hl (by decide) rfl (fun ls hl => ?_)
  refine lv_aload_n cx.1 cx.2.1 dL_law_811 rfl (lv_at hl 4 rfl) ?_
  refine lv_aload_n cx.1 cx.2.1 dL_law_812 rfl (lv_at hl 2 rfl) ?_
  refine lv_iload cx.1 cx.2.1 dL_law_813 (lv_at hl 1 rfl) ?_
  refine lv_iconst (v := 1) cx.1 cx.2.1 dL_law_815 (by decide) ?_
  refine lv_iadd cx.1 cx.2.1 dL_law_816 ?_
  refine k_sld 1 cx hX hbl hbA hI rfl (by omega) hL dL_law_817 ?_
  refine lv_aload_n cx.1 cx.2.1 dL_law_818 rfl (lv_at hl 2 rfl) ?_
  refine lv_iload cx.1 cx.2.1 dL_law_819 (lv_at hl 1 rfl) ?_
  refine lv_iconst (v := 2) cx.1 cx.2.1 dL_law_821 (by decide) ?_
  refine lv_iadd cx.1 cx.2.1 dL_law_822 ?_
  refine k_sld 2 cx hX hbl hbA hI rfl (by omega) hL dL_law_823 ?_
  refine k_callV (C := RX1) (T := TX1) (N := 13) (ci := 1) 2 (ow oa ca (kOf (xfShadow (xs (4 * k + 1)) (xs (4 * k + 2))) f (xC v (xs (4 * k + 2)).toNatClampNeg (xs (4 * k + 1)).toNatClampNeg).toInt64) ++ xw xa ca (kSt (xfShadow (xs (4 * k + 1)) (xs (4 * k + 2))) v v)) [] cx (hl.1.trans hml.symm) (kX1_shadow l D ca ma w (xs (4 * k + 1)) (xs (4 * k + 2))) hI rfl (W1 := (ow oa ca (kOf (xfShadow (xs (4 * k + 1)) (xs (4 * k + 2))) f (xC v (xs (4 * k + 2)).toNatClampNeg (xs (4 * k + 1)).toNatClampNeg).toInt64) ++ (xw xa ca (kSt (xfShadow (xs (4 * k + 1)) (xs (4 * k + 2))) v v) ++ mw ma ca (mUz w (mfShadow (xs (4 * k + 1)) (xs (4 * k + 2))))))) rfl mw_ad rfl rfl wk_607 wk_604 wk_605 wk_606 wk_3 ⟨rfl, by decide, by decide, by decide +kernel⟩ rfl ⟨rfl, rfl⟩ ⟨Nat.le_of_ble_eq_true rfl, Nat.le_of_ble_eq_true rfl⟩ (Nat.le_of_ble_eq_true rfl) dL_law_824 hf rfl (fun H locs hI => ?_)
  refine lv_istore (lv' := [(6, .int (if mfShadow (xs (4 * k + 1)) (xs (4 * k + 2)) = 0 then (if mH w (xs (4 * k + 1)).toNatClampNeg = 0 then -1 else mS w (3 * xs (4 * k + 1) + xs (4 * k + 2)).toNatClampNeg) else 0)), (5, .int (nI (xfShadow (xs (4 * k + 1)) (xs (4 * k + 2))))), (4, .int (nI (4 * k))), (0, .ref b), (1, .ref (xa 0)), (2, .ref (ma 0)), (3, .ref oa)]) cx.1 cx.2.1 dL_law_827 hl (by decide) rfl (fun ls hl => ?_)
  refine lv_aload_n cx.1 cx.2.1 dL_law_829 rfl (lv_at hl 5 rfl) ?_
  refine k_callV (C := RX1) (T := TX1) (N := 13) (ci := 1) 0 (ow oa ca (kOf (xfShadow (xs (4 * k + 1)) (xs (4 * k + 2))) f (xC v (xs (4 * k + 2)).toNatClampNeg (xs (4 * k + 1)).toNatClampNeg).toInt64) ++ xw xa ca (kSt (xfShadow (xs (4 * k + 1)) (xs (4 * k + 2))) v v)) [] cx (hl.1.trans hml.symm) (kX1_thrown l D ca ma (mUz w (mfShadow (xs (4 * k + 1)) (xs (4 * k + 2))))) hI rfl (W1 := (ow oa ca (kOf (xfShadow (xs (4 * k + 1)) (xs (4 * k + 2))) f (xC v (xs (4 * k + 2)).toNatClampNeg (xs (4 * k + 1)).toNatClampNeg).toInt64) ++ (xw xa ca (kSt (xfShadow (xs (4 * k + 1)) (xs (4 * k + 2))) v v) ++ mw ma ca (mUz w (mfShadow (xs (4 * k + 1)) (xs (4 * k + 2))))))) rfl mw_ad rfl rfl wk_486 wk_483 wk_484 wk_485 wk_3 ⟨rfl, by decide, by decide, by decide +kernel⟩ rfl ⟨rfl, rfl⟩ ⟨Nat.le_of_ble_eq_true rfl, Nat.le_of_ble_eq_true rfl⟩ (Nat.le_of_ble_eq_true rfl) dL_law_830 hf rfl (fun H locs hI => ?_)
  refine k_top (y := nI (xfShadow (xs (4 * k + 1)) (xs (4 * k + 2)))) ((rfl).trans (f_shadow _ _)) ?_
  refine lv_iload cx.1 cx.2.1 dL_law_833 (lv_at hl 1 rfl) ?_
  refine lv_icmp_eq (tgt := 840) cx.1 cx.2.1 dL_law_835 (by decide) (fun _ => ?_) (fun h9 => absurd rfl h9)
  refine lv_iload cx.1 cx.2.1 dL_law_840 (lv_at hl 1 rfl) ?_
  refine lv_if_ne (tgt := 857) cx.1 cx.2.1 dL_law_842 (by decide) (fun _ => ?_) (fun h9 => ?_)
  · refine lv_goto (tgt := 1061) cx.1 cx.2.1 dL_law_857 (by decide) ?_
    exact kk _ _ _ _ _ _ hI (SR_up (SR_same hS (xfShadow (xs (4 * k + 1)) (xs (4 * k + 2))) _) (by omega)) (lv_sub hl [2, 3, 4, 5, 6] rfl)
  · have h9 := fn0 h9 (xfShadow_s (xs (4 * k + 1)) (xs (4 * k + 2)))
    refine lv_aload_n cx.1 cx.2.1 dL_law_845 rfl (lv_at hl 6 rfl) ?_
    refine lv_iconst (v := 0) cx.1 cx.2.1 dL_law_846 (by decide) ?_
    refine kl_ld cx hI dL_law_847 ?_
    refine lv_iload cx.1 cx.2.1 dL_law_848 (lv_at hl 0 rfl) ?_
    refine lv_i2l cx.1 cx.2.1 dL_law_850 rfl ?_
    refine W.lcmp cx.1 cx.2.1 dL_law_851 ?_
    refine k_top (y := 0) (kl_cmp h9 (congrArg Int32.toInt64 (A_shadow hS _ _ h9))) ?_
    refine lv_if_eq (tgt := 857) cx.1 cx.2.1 dL_law_852 (by decide) (fun _ => ?_) (fun h8 => absurd rfl h8)
    refine lv_goto (tgt := 1061) cx.1 cx.2.1 dL_law_857 (by decide) ?_
    exact kk _ _ _ _ _ _ hI (SR_up (SR_same hS (xfShadow (xs (4 * k + 1)) (xs (4 * k + 2))) _) (by omega)) (lv_sub hl [2, 3, 4, 5, 6] rfl)
set_option maxHeartbeats 4000000 in
set_option maxRecDepth 100000 in
theorem ka_isRefused (l : Launch) {p : Program} {e : Env} {s : State} {m : MethodId} {below : List Frame} {meth : Method} {c : Code} {H : Heap} {locs : List Loc} {cells slots : Nat} {Q : State → Prop} {ls : Array Slot} {D : va_G} {ca : Nat → ClassId} {xa ma : Nat → Nat} {A : Nat → Prop} {oa b L k : Nat} {xs : Nat → Int32} {f : Nat → Int64} {v : XS} {w : MS} (cx : KC p c code s #[Value.ref b] m RL D ca) (hml : c.maxLocals = 7) (hE : KE A s s.heap) (hlS : l.stackTraces = false) (hX : va_X b L xs s s.heap) (hbl : b < s.heap.size) (hbA : ¬ A b) (hL : L ≤ 2048) (hi : 4 * k + 4 ≤ L) (hf : cells + 1 ≤ room_1.cells ∧ slots + 6 ≤ room_1.slots) (hI : KI D A (ow oa ca f ++ (xw xa ca v ++ mw ma ca w)) s.heap H locs) (hS : SR (2 * k) v w) (hl : lv_has ls 7 [(4, .int (nI (4 * k))), (0, .ref b), (1, .ref (xa 0)), (2, .ref (ma 0)), (3, .ref oa)]) (kk : LBk l p e s m below meth c D ca xa ma A oa b k (cells + 1) (slots + 6) Q) : W p l e room_1 s m #[Value.ref b] below meth c H locs cells slots Q (F0 m 873 ls []) := by
  refine lv_aload_n cx.1 cx.2.1 dL_law_873 rfl (lv_at hl 2 rfl) ?_
  refine lv_aload_n cx.1 cx.2.1 dL_law_874 rfl (lv_at hl 1 rfl) ?_
  refine lv_iload cx.1 cx.2.1 dL_law_875 (lv_at hl 0 rfl) ?_
  refine lv_iconst (v := 1) cx.1 cx.2.1 dL_law_877 (by decide) ?_
  refine lv_iadd cx.1 cx.2.1 dL_law_878 ?_
  refine k_sld 1 cx hX hbl hbA hI rfl (by omega) hL dL_law_879 ?_
  refine lv_aload_n cx.1 cx.2.1 dL_law_880 rfl (lv_at hl 4 rfl) ?_
  refine k_callH 3 [] (mw ma ca w) cx hE (hl.1.trans hml.symm) (kL_isRefused l D ca xa oa f v (xs (4 * k + 1)) (A_z hS) hlS) hI rfl (W1 := (ow oa ca (kOf (xfKey (xs (4 * k + 1))) f (if xR v (xs (4 * k + 1)).toNatClampNeg = 0 then 0 else 1)) ++ (xw xa ca (kSt (xfKey (xs (4 * k + 1))) v v) ++ mw ma ca w))) rfl ox_ad wk_417 wk_415 wk_416 wk_0 ⟨by decide, by decide, by decide +kernel⟩ rfl ⟨rfl, rfl⟩ ⟨Nat.le_of_ble_eq_true rfl, Nat.le_of_ble_eq_true rfl⟩ (Nat.le_of_ble_eq_true rfl) dL_law_881 hf rfl (fun H locs hI => ?_)
  refine lv_istore (lv' := [(5, .int (nI (xfKey (xs (4 * k + 1))))), (4, .int (nI (4 * k))), (0, .ref b), (1, .ref (xa 0)), (2, .ref (ma 0)), (3, .ref oa)]) cx.1 cx.2.1 dL_law_884 hl (by decide) rfl (fun ls hl => ?_)
  refine lv_aload_n cx.1 cx.2.1 dL_law_886 rfl (lv_at hl 4 rfl) ?_
  refine lv_aload_n cx.1 cx.2.1 dL_law_887 rfl (lv_at hl 2 rfl) ?_
  refine lv_iload cx.1 cx.2.1 dL_law_888 (lv_at hl 1 rfl) ?_
  refine lv_iconst (v := 1) cx.1 cx.2.1 dL_law_890 (by decide) ?_
  refine lv_iadd cx.1 cx.2.1 dL_law_891 ?_
  refine k_sld 1 cx hX hbl hbA hI rfl (by omega) hL dL_law_892 ?_
  refine k_callV (C := RX1) (T := TX1) (N := 13) (ci := 1) 1 (ow oa ca (kOf (xfKey (xs (4 * k + 1))) f (if xR v (xs (4 * k + 1)).toNatClampNeg = 0 then 0 else 1)) ++ xw xa ca (kSt (xfKey (xs (4 * k + 1))) v v)) [] cx (hl.1.trans hml.symm) (kX1_isRefused l D ca ma w (xs (4 * k + 1))) hI rfl (W1 := (ow oa ca (kOf (xfKey (xs (4 * k + 1))) f (if xR v (xs (4 * k + 1)).toNatClampNeg = 0 then 0 else 1)) ++ (xw xa ca (kSt (xfKey (xs (4 * k + 1))) v v) ++ mw ma ca (mUz w (mfKey (xs (4 * k + 1))))))) rfl mw_ad rfl rfl wk_618 wk_615 wk_616 wk_617 wk_3 ⟨rfl, by decide, by decide, by decide +kernel⟩ rfl ⟨rfl, rfl⟩ ⟨Nat.le_of_ble_eq_true rfl, Nat.le_of_ble_eq_true rfl⟩ (Nat.le_of_ble_eq_true rfl) dL_law_893 hf rfl (fun H locs hI => ?_)
  refine lv_istore (lv' := [(6, .int (b2i (decide (mfKey (xs (4 * k + 1)) = 0) && !decide (mF w (xs (4 * k + 1)).toNatClampNeg = 0)))), (5, .int (nI (xfKey (xs (4 * k + 1))))), (4, .int (nI (4 * k))), (0, .ref b), (1, .ref (xa 0)), (2, .ref (ma 0)), (3, .ref oa)]) cx.1 cx.2.1 dL_law_896 hl (by decide) rfl (fun ls hl => ?_)
  refine lv_aload_n cx.1 cx.2.1 dL_law_898 rfl (lv_at hl 5 rfl) ?_
  refine k_callV (C := RX1) (T := TX1) (N := 13) (ci := 1) 0 (ow oa ca (kOf (xfKey (xs (4 * k + 1))) f (if xR v (xs (4 * k + 1)).toNatClampNeg = 0 then 0 else 1)) ++ xw xa ca (kSt (xfKey (xs (4 * k + 1))) v v)) [] cx (hl.1.trans hml.symm) (kX1_thrown l D ca ma (mUz w (mfKey (xs (4 * k + 1))))) hI rfl (W1 := (ow oa ca (kOf (xfKey (xs (4 * k + 1))) f (if xR v (xs (4 * k + 1)).toNatClampNeg = 0 then 0 else 1)) ++ (xw xa ca (kSt (xfKey (xs (4 * k + 1))) v v) ++ mw ma ca (mUz w (mfKey (xs (4 * k + 1))))))) rfl mw_ad rfl rfl wk_486 wk_483 wk_484 wk_485 wk_3 ⟨rfl, by decide, by decide, by decide +kernel⟩ rfl ⟨rfl, rfl⟩ ⟨Nat.le_of_ble_eq_true rfl, Nat.le_of_ble_eq_true rfl⟩ (Nat.le_of_ble_eq_true rfl) dL_law_899 hf rfl (fun H locs hI => ?_)
  refine k_top (y := nI (xfKey (xs (4 * k + 1)))) ((rfl).trans (f_key _)) ?_
  refine lv_iload cx.1 cx.2.1 dL_law_902 (lv_at hl 1 rfl) ?_
  refine lv_icmp_eq (tgt := 909) cx.1 cx.2.1 dL_law_904 (by decide) (fun _ => ?_) (fun h9 => absurd rfl h9)
  refine lv_iload cx.1 cx.2.1 dL_law_909 (lv_at hl 1 rfl) ?_
  refine lv_if_ne (tgt := 933) cx.1 cx.2.1 dL_law_911 (by decide) (fun _ => ?_) (fun h9 => ?_)
  · refine lv_goto (tgt := 1061) cx.1 cx.2.1 dL_law_933 (by decide) ?_
    exact kk _ _ _ _ _ _ hI (SR_up (SR_same hS (xfKey (xs (4 * k + 1))) _) (by omega)) (lv_sub hl [2, 3, 4, 5, 6] rfl)
  · have h9 := fn0 h9 (xfKey_s (xs (4 * k + 1)))
    refine lv_aload_n cx.1 cx.2.1 dL_law_914 rfl (lv_at hl 6 rfl) ?_
    refine lv_iconst (v := 0) cx.1 cx.2.1 dL_law_915 (by decide) ?_
    refine kl_ld cx hI dL_law_916 ?_
    refine lv_iload cx.1 cx.2.1 dL_law_917 (lv_at hl 0 rfl) ?_
    refine lv_if_eq (tgt := 926) cx.1 cx.2.1 dL_law_919 (by decide) (fun h7 => ?_) (fun h7 => ?_)
    · refine lv_lconst (v := 0) cx.1 cx.2.1 dL_law_926 rfl ?_
      refine W.lcmp cx.1 cx.2.1 dL_law_927 ?_
      refine k_top (y := 0) (kl_cmp h9 ((A_refused hS _ h9).trans (if_pos h7))) ?_
      refine lv_if_eq (tgt := 933) cx.1 cx.2.1 dL_law_928 (by decide) (fun _ => ?_) (fun h8 => absurd rfl h8)
      refine lv_goto (tgt := 1061) cx.1 cx.2.1 dL_law_933 (by decide) ?_
      exact kk _ _ _ _ _ _ hI (SR_up (SR_same hS (xfKey (xs (4 * k + 1))) _) (by omega)) (lv_sub hl [2, 3, 4, 5, 6] rfl)
    · refine lv_lconst (v := 1) cx.1 cx.2.1 dL_law_922 rfl ?_
      refine lv_goto (tgt := 927) cx.1 cx.2.1 dL_law_923 (by decide) ?_
      refine W.lcmp cx.1 cx.2.1 dL_law_927 ?_
      refine k_top (y := 0) (kl_cmp h9 ((A_refused hS _ h9).trans (if_neg h7))) ?_
      refine lv_if_eq (tgt := 933) cx.1 cx.2.1 dL_law_928 (by decide) (fun _ => ?_) (fun h8 => absurd rfl h8)
      refine lv_goto (tgt := 1061) cx.1 cx.2.1 dL_law_933 (by decide) ?_
      exact kk _ _ _ _ _ _ hI (SR_up (SR_same hS (xfKey (xs (4 * k + 1))) _) (by omega)) (lv_sub hl [2, 3, 4, 5, 6] rfl)

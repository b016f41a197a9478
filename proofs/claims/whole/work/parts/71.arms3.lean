set_option maxHeartbeats 4000000 in
set_option maxRecDepth 100000 in
theorem ka_delete (l : Launch) {p : Program} {e : Env} {s : State} {m : MethodId} {below : List Frame} {meth : Method} {c : Code} {H : Heap} {locs : List Loc} {cells slots : Nat} {Q : State → Prop} {ls : Array Slot} {D : va_G} {ca : Nat → ClassId} {xa ma : Nat → Nat} {A : Nat → Prop} {oa b L k : Nat} {xs : Nat → Int32} {f : Nat → Int64} {v : XS} {w : MS} (cx : KC p c code s #[Value.ref b] m RL D ca) (hml : c.maxLocals = 7) (hE : KE A s s.heap) (hlS : l.stackTraces = false) (hX : va_X b L xs s s.heap) (hbl : b < s.heap.size) (hbA : ¬ A b) (hL : L ≤ 2048) (hi : 4 * k + 4 ≤ L) (hf : cells + 1 ≤ room_1.cells ∧ slots + 6 ≤ room_1.slots) (hI : KI D A (ow oa ca f ++ (xw xa ca v ++ mw ma ca w)) s.heap H locs) (hS : SR (2 * k) v w) (hl : lv_has ls 7 [(4, .int (nI (4 * k))), (0, .ref b), (1, .ref (xa 0)), (2, .ref (ma 0)), (3, .ref oa)]) (kk : LBk l p e s m below meth c D ca xa ma A oa b k (cells + 1) (slots + 6) Q) : W p l e room_1 s m #[Value.ref b] below meth c H locs cells slots Q (F0 m 260 ls []) := by
  refine lv_aload_n cx.1 cx.2.1 dL_law_260 rfl (lv_at hl 2 rfl) ?_
  refine lv_aload_n cx.1 cx.2.1 dL_law_261 rfl (lv_at hl 1 rfl) ?_
  refine lv_iload cx.1 cx.2.1 dL_law_262 (lv_at hl 0 rfl) ?_
  refine lv_iconst (v := 1) cx.1 cx.2.1 dL_law_264 (by decide) ?_
  refine lv_iadd cx.1 cx.2.1 dL_law_265 ?_
  refine k_sld 1 cx hX hbl hbA hI rfl (by omega) hL dL_law_266 ?_
  refine lv_aload_n cx.1 cx.2.1 dL_law_267 rfl (lv_at hl 4 rfl) ?_
  refine k_callH 3 [] (mw ma ca w) cx hE (hl.1.trans hml.symm) (kL_delete l D ca xa oa f v (xs (4 * k + 1)) (SR_mc hS (by omega)).2.2 hlS) hI rfl (W1 := (ow oa ca (kOf (xfDelete v (xs (4 * k + 1))) f (xRow v (xs (4 * k + 1))).toInt64) ++ (xw xa ca (kSt (xfDelete v (xs (4 * k + 1))) v (xFollow (xPut v (xs (4 * k + 1)) (-1) (-1)) (xs (4 * k + 1)))) ++ mw ma ca w))) rfl ox_ad wk_291 wk_289 wk_290 wk_0 ⟨by decide, by decide, by decide +kernel⟩ rfl ⟨rfl, rfl⟩ ⟨Nat.le_of_ble_eq_true rfl, Nat.le_of_ble_eq_true rfl⟩ (Nat.le_of_ble_eq_true rfl) dL_law_268 hf rfl (fun H locs hI => ?_)
  refine lv_istore (lv' := [(5, .int (nI (xfDelete v (xs (4 * k + 1))))), (4, .int (nI (4 * k))), (0, .ref b), (1, .ref (xa 0)), (2, .ref (ma 0)), (3, .ref oa)]) cx.1 cx.2.1 dL_law_271 hl (by decide) rfl (fun ls hl => ?_)
  refine lv_aload_n cx.1 cx.2.1 dL_law_273 rfl (lv_at hl 4 rfl) ?_
  refine lv_aload_n cx.1 cx.2.1 dL_law_274 rfl (lv_at hl 2 rfl) ?_
  refine lv_iload cx.1 cx.2.1 dL_law_275 (lv_at hl 1 rfl) ?_
  refine lv_iconst (v := 1) cx.1 cx.2.1 dL_law_277 (by decide) ?_
  refine lv_iadd cx.1 cx.2.1 dL_law_278 ?_
  refine k_sld 1 cx hX hbl hbA hI rfl (by omega) hL dL_law_279 ?_
  refine k_callV (C := RX1) (T := TX1) (N := 13) (ci := 1) 1 (ow oa ca (kOf (xfDelete v (xs (4 * k + 1))) f (xRow v (xs (4 * k + 1))).toInt64) ++ xw xa ca (kSt (xfDelete v (xs (4 * k + 1))) v (xFollow (xPut v (xs (4 * k + 1)) (-1) (-1)) (xs (4 * k + 1))))) [] cx (hl.1.trans hml.symm) (kX1_delete l D ca ma w (xs (4 * k + 1)) (SR_mc hS (by omega)).1) hI rfl (W1 := (ow oa ca (kOf (xfDelete v (xs (4 * k + 1))) f (xRow v (xs (4 * k + 1))).toInt64) ++ (xw xa ca (kSt (xfDelete v (xs (4 * k + 1))) v (xFollow (xPut v (xs (4 * k + 1)) (-1) (-1)) (xs (4 * k + 1)))) ++ mw ma ca (mDelete w (xs (4 * k + 1)))))) rfl mw_ad rfl rfl wk_539 wk_536 wk_537 wk_538 wk_3 ⟨rfl, by decide, by decide, by decide +kernel⟩ rfl ⟨rfl, rfl⟩ ⟨Nat.le_of_ble_eq_true rfl, Nat.le_of_ble_eq_true rfl⟩ (Nat.le_of_ble_eq_true rfl) dL_law_280 hf rfl (fun H locs hI => ?_)
  refine lv_istore (lv' := [(6, .int (if mfDelete w (xs (4 * k + 1)) = 0 then mO w (xs (4 * k + 1)).toNatClampNeg else 0)), (5, .int (nI (xfDelete v (xs (4 * k + 1))))), (4, .int (nI (4 * k))), (0, .ref b), (1, .ref (xa 0)), (2, .ref (ma 0)), (3, .ref oa)]) cx.1 cx.2.1 dL_law_283 hl (by decide) rfl (fun ls hl => ?_)
  refine lv_aload_n cx.1 cx.2.1 dL_law_285 rfl (lv_at hl 5 rfl) ?_
  refine k_callV (C := RX1) (T := TX1) (N := 13) (ci := 1) 0 (ow oa ca (kOf (xfDelete v (xs (4 * k + 1))) f (xRow v (xs (4 * k + 1))).toInt64) ++ xw xa ca (kSt (xfDelete v (xs (4 * k + 1))) v (xFollow (xPut v (xs (4 * k + 1)) (-1) (-1)) (xs (4 * k + 1))))) [] cx (hl.1.trans hml.symm) (kX1_thrown l D ca ma (mDelete w (xs (4 * k + 1)))) hI rfl (W1 := (ow oa ca (kOf (xfDelete v (xs (4 * k + 1))) f (xRow v (xs (4 * k + 1))).toInt64) ++ (xw xa ca (kSt (xfDelete v (xs (4 * k + 1))) v (xFollow (xPut v (xs (4 * k + 1)) (-1) (-1)) (xs (4 * k + 1)))) ++ mw ma ca (mDelete w (xs (4 * k + 1)))))) rfl mw_ad rfl rfl wk_486 wk_483 wk_484 wk_485 wk_3 ⟨rfl, by decide, by decide, by decide +kernel⟩ rfl ⟨rfl, rfl⟩ ⟨Nat.le_of_ble_eq_true rfl, Nat.le_of_ble_eq_true rfl⟩ (Nat.le_of_ble_eq_true rfl) dL_law_286 hf rfl (fun H locs hI => ?_)
  refine k_top (y := nI (xfDelete v (xs (4 * k + 1)))) ((Z_delete w _).trans (f_delete hS _)) ?_
  refine lv_iload cx.1 cx.2.1 dL_law_289 (lv_at hl 1 rfl) ?_
  refine lv_icmp_eq (tgt := 296) cx.1 cx.2.1 dL_law_291 (by decide) (fun _ => ?_) (fun h9 => absurd rfl h9)
  refine lv_iload cx.1 cx.2.1 dL_law_296 (lv_at hl 1 rfl) ?_
  refine lv_if_ne (tgt := 313) cx.1 cx.2.1 dL_law_298 (by decide) (fun _ => ?_) (fun h9 => ?_)
  · refine lv_goto (tgt := 1061) cx.1 cx.2.1 dL_law_313 (by decide) ?_
    exact kk _ _ _ _ _ _ hI (SR_up (SR_delete hS (by omega) _) (by omega)) (lv_sub hl [2, 3, 4, 5, 6] rfl)
  · have h9 := fn0 h9 (xfDelete_s v (xs (4 * k + 1)))
    refine lv_aload_n cx.1 cx.2.1 dL_law_301 rfl (lv_at hl 6 rfl) ?_
    refine lv_iconst (v := 0) cx.1 cx.2.1 dL_law_302 (by decide) ?_
    refine kl_ld cx hI dL_law_303 ?_
    refine lv_iload cx.1 cx.2.1 dL_law_304 (lv_at hl 0 rfl) ?_
    refine lv_i2l cx.1 cx.2.1 dL_law_306 rfl ?_
    refine W.lcmp cx.1 cx.2.1 dL_law_307 ?_
    refine k_top (y := 0) (kl_cmp h9 (congrArg Int32.toInt64 (A_delete hS _ h9))) ?_
    refine lv_if_eq (tgt := 313) cx.1 cx.2.1 dL_law_308 (by decide) (fun _ => ?_) (fun h8 => absurd rfl h8)
    refine lv_goto (tgt := 1061) cx.1 cx.2.1 dL_law_313 (by decide) ?_
    exact kk _ _ _ _ _ _ hI (SR_up (SR_delete hS (by omega) _) (by omega)) (lv_sub hl [2, 3, 4, 5, 6] rfl)
set_option maxHeartbeats 4000000 in
set_option maxRecDepth 100000 in
theorem ka_cutOver (l : Launch) {p : Program} {e : Env} {s : State} {m : MethodId} {below : List Frame} {meth : Method} {c : Code} {H : Heap} {locs : List Loc} {cells slots : Nat} {Q : State → Prop} {ls : Array Slot} {D : va_G} {ca : Nat → ClassId} {xa ma : Nat → Nat} {A : Nat → Prop} {oa b L k : Nat} {xs : Nat → Int32} {f : Nat → Int64} {v : XS} {w : MS} (cx : KC p c code s #[Value.ref b] m RL D ca) (hml : c.maxLocals = 7) (hE : KE A s s.heap) (hlS : l.stackTraces = false) (hX : va_X b L xs s s.heap) (hbl : b < s.heap.size) (hbA : ¬ A b) (hL : L ≤ 2048) (hi : 4 * k + 4 ≤ L) (hf : cells + 1 ≤ room_1.cells ∧ slots + 6 ≤ room_1.slots) (hI : KI D A (ow oa ca f ++ (xw xa ca v ++ mw ma ca w)) s.heap H locs) (hS : SR (2 * k) v w) (hl : lv_has ls 7 [(4, .int (nI (4 * k))), (0, .ref b), (1, .ref (xa 0)), (2, .ref (ma 0)), (3, .ref oa)]) (kk : LBk l p e s m below meth c D ca xa ma A oa b k (cells + 1) (slots + 6) Q) : W p l e room_1 s m #[Value.ref b] below meth c H locs cells slots Q (F0 m 516 ls []) := by
  obtain ⟨c0, hc, e3, e4, hx, g1, g2⟩ := SR_nn hS (by omega)
  refine lv_aload_n cx.1 cx.2.1 dL_law_516 rfl (lv_at hl 2 rfl) ?_
  refine lv_aload_n cx.1 cx.2.1 dL_law_517 rfl (lv_at hl 1 rfl) ?_
  refine lv_iload cx.1 cx.2.1 dL_law_518 (lv_at hl 0 rfl) ?_
  refine lv_iconst (v := 1) cx.1 cx.2.1 dL_law_520 (by decide) ?_
  refine lv_iadd cx.1 cx.2.1 dL_law_521 ?_
  refine k_sld 1 cx hX hbl hbA hI rfl (by omega) hL dL_law_522 ?_
  refine lv_aload_n cx.1 cx.2.1 dL_law_523 rfl (lv_at hl 4 rfl) ?_
  refine k_callH 3 [] (mw ma ca w) cx hE (hl.1.trans hml.symm) (kL_cutOver l D ca xa oa f v (xs (4 * k + 1)) c0 e3 (by omega) g1 hlS) hI rfl (W1 := (ow oa ca (kOf (xfCut v (xs (4 * k + 1))) f (xc v).toInt64) ++ (xw xa ca (kSt (xfCut v (xs (4 * k + 1))) v (xUp (xPlay v c0) 2)) ++ mw ma ca w))) rfl ox_ad wk_359 wk_357 wk_358 wk_0 ⟨by decide, by decide, by decide +kernel⟩ rfl ⟨rfl, rfl⟩ ⟨Nat.le_of_ble_eq_true rfl, Nat.le_of_ble_eq_true rfl⟩ (Nat.le_of_ble_eq_true rfl) dL_law_524 hf rfl (fun H locs hI => ?_)
  refine lv_istore (lv' := [(5, .int (nI (xfCut v (xs (4 * k + 1))))), (4, .int (nI (4 * k))), (0, .ref b), (1, .ref (xa 0)), (2, .ref (ma 0)), (3, .ref oa)]) cx.1 cx.2.1 dL_law_527 hl (by decide) rfl (fun ls hl => ?_)
  refine lv_aload_n cx.1 cx.2.1 dL_law_529 rfl (lv_at hl 4 rfl) ?_
  refine lv_aload_n cx.1 cx.2.1 dL_law_530 rfl (lv_at hl 2 rfl) ?_
  refine lv_iload cx.1 cx.2.1 dL_law_531 (lv_at hl 1 rfl) ?_
  refine lv_iconst (v := 1) cx.1 cx.2.1 dL_law_533 (by decide) ?_
  refine lv_iadd cx.1 cx.2.1 dL_law_534 ?_
  refine k_sld 1 cx hX hbl hbA hI rfl (by omega) hL dL_law_535 ?_
  refine k_callV (C := RX1) (T := TX1) (N := 13) (ci := 1) 1 (ow oa ca (kOf (xfCut v (xs (4 * k + 1))) f (xc v).toInt64) ++ xw xa ca (kSt (xfCut v (xs (4 * k + 1))) v (xUp (xPlay v c0) 2))) [] cx (hl.1.trans hml.symm) (kX1_cutOver l D ca ma w (xs (4 * k + 1)) c0 e4 (by omega) g2) hI rfl (W1 := (ow oa ca (kOf (xfCut v (xs (4 * k + 1))) f (xc v).toInt64) ++ (xw xa ca (kSt (xfCut v (xs (4 * k + 1))) v (xUp (xPlay v c0) 2)) ++ mw ma ca (mCut w (xs (4 * k + 1)) c0)))) rfl mw_ad rfl rfl wk_567 wk_564 wk_565 wk_566 wk_3 ⟨rfl, by decide, by decide, by decide +kernel⟩ rfl ⟨rfl, rfl⟩ ⟨Nat.le_of_ble_eq_true rfl, Nat.le_of_ble_eq_true rfl⟩ (Nat.le_of_ble_eq_true rfl) dL_law_536 hf rfl (fun H locs hI => ?_)
  refine lv_istore (lv' := [(6, .int (if mfCut w (xs (4 * k + 1)) = 0 then mc w else 0)), (5, .int (nI (xfCut v (xs (4 * k + 1))))), (4, .int (nI (4 * k))), (0, .ref b), (1, .ref (xa 0)), (2, .ref (ma 0)), (3, .ref oa)]) cx.1 cx.2.1 dL_law_539 hl (by decide) rfl (fun ls hl => ?_)
  refine lv_aload_n cx.1 cx.2.1 dL_law_541 rfl (lv_at hl 5 rfl) ?_
  refine k_callV (C := RX1) (T := TX1) (N := 13) (ci := 1) 0 (ow oa ca (kOf (xfCut v (xs (4 * k + 1))) f (xc v).toInt64) ++ xw xa ca (kSt (xfCut v (xs (4 * k + 1))) v (xUp (xPlay v c0) 2))) [] cx (hl.1.trans hml.symm) (kX1_thrown l D ca ma (mCut w (xs (4 * k + 1)) c0)) hI rfl (W1 := (ow oa ca (kOf (xfCut v (xs (4 * k + 1))) f (xc v).toInt64) ++ (xw xa ca (kSt (xfCut v (xs (4 * k + 1))) v (xUp (xPlay v c0) 2)) ++ mw ma ca (mCut w (xs (4 * k + 1)) c0)))) rfl mw_ad rfl rfl wk_486 wk_483 wk_484 wk_485 wk_3 ⟨rfl, by decide, by decide, by decide +kernel⟩ rfl ⟨rfl, rfl⟩ ⟨Nat.le_of_ble_eq_true rfl, Nat.le_of_ble_eq_true rfl⟩ (Nat.le_of_ble_eq_true rfl) dL_law_542 hf rfl (fun H locs hI => ?_)
  refine k_top (y := nI (xfCut v (xs (4 * k + 1)))) ((Z_cut w _ _).trans (f_cut hS _)) ?_
  refine lv_iload cx.1 cx.2.1 dL_law_545 (lv_at hl 1 rfl) ?_
  refine lv_icmp_eq (tgt := 552) cx.1 cx.2.1 dL_law_547 (by decide) (fun _ => ?_) (fun h9 => absurd rfl h9)
  refine lv_iload cx.1 cx.2.1 dL_law_552 (lv_at hl 1 rfl) ?_
  refine lv_if_ne (tgt := 569) cx.1 cx.2.1 dL_law_554 (by decide) (fun _ => ?_) (fun h9 => ?_)
  · refine lv_goto (tgt := 1061) cx.1 cx.2.1 dL_law_569 (by decide) ?_
    exact kk _ _ _ _ _ _ hI (SR_up (SR_cut hS (by omega) _ hc e3 e4 hx) (by omega)) (lv_sub hl [2, 3, 4, 5, 6] rfl)
  · have h9 := fn0 h9 (xfCut_s v (xs (4 * k + 1)))
    refine lv_aload_n cx.1 cx.2.1 dL_law_557 rfl (lv_at hl 6 rfl) ?_
    refine lv_iconst (v := 0) cx.1 cx.2.1 dL_law_558 (by decide) ?_
    refine kl_ld cx hI dL_law_559 ?_
    refine lv_iload cx.1 cx.2.1 dL_law_560 (lv_at hl 0 rfl) ?_
    refine lv_i2l cx.1 cx.2.1 dL_law_562 rfl ?_
    refine W.lcmp cx.1 cx.2.1 dL_law_563 ?_
    refine k_top (y := 0) (kl_cmp h9 (congrArg Int32.toInt64 (A_cut hS _ h9))) ?_
    refine lv_if_eq (tgt := 569) cx.1 cx.2.1 dL_law_564 (by decide) (fun _ => ?_) (fun h8 => absurd rfl h8)
    refine lv_goto (tgt := 1061) cx.1 cx.2.1 dL_law_569 (by decide) ?_
    exact kk _ _ _ _ _ _ hI (SR_up (SR_cut hS (by omega) _ hc e3 e4 hx) (by omega)) (lv_sub hl [2, 3, 4, 5, 6] rfl)
set_option maxHeartbeats 4000000 in
set_option maxRecDepth 100000 in
theorem ka_finish (l : Launch) {p : Program} {e : Env} {s : State} {m : MethodId} {below : List Frame} {meth : Method} {c : Code} {H : Heap} {locs : List Loc} {cells slots : Nat} {Q : State → Prop} {ls : Array Slot} {D : va_G} {ca : Nat → ClassId} {xa ma : Nat → Nat} {A : Nat → Prop} {oa b L k : Nat} {xs : Nat → Int32} {f : Nat → Int64} {v : XS} {w : MS} (cx : KC p c code s #[Value.ref b] m RL D ca) (hml : c.maxLocals = 7) (hE : KE A s s.heap) (hlS : l.stackTraces = false) (hX : va_X b L xs s s.heap) (hbl : b < s.heap.size) (hbA : ¬ A b) (hL : L ≤ 2048) (hi : 4 * k + 4 ≤ L) (hf : cells + 1 ≤ room_1.cells ∧ slots + 6 ≤ room_1.slots) (hI : KI D A (ow oa ca f ++ (xw xa ca v ++ mw ma ca w)) s.heap H locs) (hS : SR (2 * k) v w) (hl : lv_has ls 7 [(4, .int (nI (4 * k))), (0, .ref b), (1, .ref (xa 0)), (2, .ref (ma 0)), (3, .ref oa)]) (kk : LBk l p e s m below meth c D ca xa ma A oa b k (cells + 1) (slots + 6) Q) : W p l e room_1 s m #[Value.ref b] below meth c H locs cells slots Q (F0 m 596 ls []) := by
  refine lv_aload_n cx.1 cx.2.1 dL_law_596 rfl (lv_at hl 2 rfl) ?_
  refine lv_aload_n cx.1 cx.2.1 dL_law_597 rfl (lv_at hl 4 rfl) ?_
  refine k_callH 2 [] (mw ma ca w) cx hE (hl.1.trans hml.symm) (kL_finish l D ca xa oa f v hlS) hI rfl (W1 := (ow oa ca (kOf (xfUndo v) f (xRemN v 40).toInt64) ++ (xw xa ca (kSt (xfUndo v) v (xEnd (xRem v 40))) ++ mw ma ca w))) rfl ox_ad wk_376 wk_374 wk_375 wk_0 ⟨by decide, by decide, by decide +kernel⟩ rfl ⟨rfl, rfl⟩ ⟨Nat.le_of_ble_eq_true rfl, Nat.le_of_ble_eq_true rfl⟩ (Nat.le_of_ble_eq_true rfl) dL_law_598 hf rfl (fun H locs hI => ?_)
  refine lv_istore (lv' := [(5, .int (nI (xfUndo v))), (4, .int (nI (4 * k))), (0, .ref b), (1, .ref (xa 0)), (2, .ref (ma 0)), (3, .ref oa)]) cx.1 cx.2.1 dL_law_601 hl (by decide) rfl (fun ls hl => ?_)
  refine lv_aload_n cx.1 cx.2.1 dL_law_603 rfl (lv_at hl 4 rfl) ?_
  refine k_callV (C := RX1) (T := TX1) (N := 13) (ci := 1) 0 (ow oa ca (kOf (xfUndo v) f (xRemN v 40).toInt64) ++ xw xa ca (kSt (xfUndo v) v (xEnd (xRem v 40)))) [] cx (hl.1.trans hml.symm) (kX1_finish l D ca ma w) hI rfl (W1 := (ow oa ca (kOf (xfUndo v) f (xRemN v 40).toInt64) ++ (xw xa ca (kSt (xfUndo v) v (xEnd (xRem v 40))) ++ mw ma ca (mFinish w)))) rfl mw_ad rfl rfl wk_575 wk_572 wk_573 wk_574 wk_3 ⟨rfl, by decide, by decide, by decide +kernel⟩ rfl ⟨rfl, rfl⟩ ⟨Nat.le_of_ble_eq_true rfl, Nat.le_of_ble_eq_true rfl⟩ (Nat.le_of_ble_eq_true rfl) dL_law_604 hf rfl (fun H locs hI => ?_)
  refine lv_istore (lv' := [(6, .int (if mfUndo w = 0 then mRemN (mUz w (mfUndo w)) 40 else 0)), (5, .int (nI (xfUndo v))), (4, .int (nI (4 * k))), (0, .ref b), (1, .ref (xa 0)), (2, .ref (ma 0)), (3, .ref oa)]) cx.1 cx.2.1 dL_law_607 hl (by decide) rfl (fun ls hl => ?_)
  refine lv_aload_n cx.1 cx.2.1 dL_law_609 rfl (lv_at hl 5 rfl) ?_
  refine k_callV (C := RX1) (T := TX1) (N := 13) (ci := 1) 0 (ow oa ca (kOf (xfUndo v) f (xRemN v 40).toInt64) ++ xw xa ca (kSt (xfUndo v) v (xEnd (xRem v 40)))) [] cx (hl.1.trans hml.symm) (kX1_thrown l D ca ma (mFinish w)) hI rfl (W1 := (ow oa ca (kOf (xfUndo v) f (xRemN v 40).toInt64) ++ (xw xa ca (kSt (xfUndo v) v (xEnd (xRem v 40))) ++ mw ma ca (mFinish w)))) rfl mw_ad rfl rfl wk_486 wk_483 wk_484 wk_485 wk_3 ⟨rfl, by decide, by decide, by decide +kernel⟩ rfl ⟨rfl, rfl⟩ ⟨Nat.le_of_ble_eq_true rfl, Nat.le_of_ble_eq_true rfl⟩ (Nat.le_of_ble_eq_true rfl) dL_law_610 hf rfl (fun H locs hI => ?_)
  refine k_top (y := nI (xfUndo v)) ((Z_finish w).trans (f_undo hS)) ?_
  refine lv_iload cx.1 cx.2.1 dL_law_613 (lv_at hl 1 rfl) ?_
  refine lv_icmp_eq (tgt := 620) cx.1 cx.2.1 dL_law_615 (by decide) (fun _ => ?_) (fun h9 => absurd rfl h9)
  refine lv_iload cx.1 cx.2.1 dL_law_620 (lv_at hl 1 rfl) ?_
  refine lv_if_ne (tgt := 637) cx.1 cx.2.1 dL_law_622 (by decide) (fun _ => ?_) (fun h9 => ?_)
  · refine lv_goto (tgt := 1061) cx.1 cx.2.1 dL_law_637 (by decide) ?_
    exact kk _ _ _ _ _ _ hI (SR_up (SR_finish hS) (by omega)) (lv_sub hl [2, 3, 4, 5, 6] rfl)
  · have h9 := fn0 h9 (xfUndo_s v)
    refine lv_aload_n cx.1 cx.2.1 dL_law_625 rfl (lv_at hl 6 rfl) ?_
    refine lv_iconst (v := 0) cx.1 cx.2.1 dL_law_626 (by decide) ?_
    refine kl_ld cx hI dL_law_627 ?_
    refine lv_iload cx.1 cx.2.1 dL_law_628 (lv_at hl 0 rfl) ?_
    refine lv_i2l cx.1 cx.2.1 dL_law_630 rfl ?_
    refine W.lcmp cx.1 cx.2.1 dL_law_631 ?_
    refine k_top (y := 0) (kl_cmp h9 (congrArg Int32.toInt64 (A_finish hS h9))) ?_
    refine lv_if_eq (tgt := 637) cx.1 cx.2.1 dL_law_632 (by decide) (fun _ => ?_) (fun h8 => absurd rfl h8)
    refine lv_goto (tgt := 1061) cx.1 cx.2.1 dL_law_637 (by decide) ?_
    exact kk _ _ _ _ _ _ hI (SR_up (SR_finish hS) (by omega)) (lv_sub hl [2, 3, 4, 5, 6] rfl)

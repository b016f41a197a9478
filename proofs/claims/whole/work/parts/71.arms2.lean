set_option maxHeartbeats 4000000 in
set_option maxRecDepth 100000 in
theorem ka_start (l : Launch) {p : Program} {e : Env} {s : State} {m : MethodId} {below : List Frame} {meth : Method} {c : Code} {H : Heap} {locs : List Loc} {cells slots : Nat} {Q : State → Prop} {ls : Array Slot} {D : va_G} {ca : Nat → ClassId} {xa ma : Nat → Nat} {A : Nat → Prop} {oa b L k : Nat} {xs : Nat → Int32} {f : Nat → Int64} {v : XS} {w : MS} (cx : KC p c code s #[Value.ref b] m RL D ca) (hml : c.maxLocals = 7) (hE : KE A s s.heap) (hlS : l.stackTraces = false) (hX : va_X b L xs s s.heap) (hbl : b < s.heap.size) (hbA : ¬ A b) (hL : L ≤ 2048) (hi : 4 * k + 4 ≤ L) (hf : cells + 1 ≤ room_1.cells ∧ slots + 6 ≤ room_1.slots) (hI : KI D A (ow oa ca f ++ (xw xa ca v ++ mw ma ca w)) s.heap H locs) (hS : SR (2 * k) v w) (hl : lv_has ls 7 [(4, .int (nI (4 * k))), (0, .ref b), (1, .ref (xa 0)), (2, .ref (ma 0)), (3, .ref oa)]) (kk : LBk l p e s m below meth c D ca xa ma A oa b k (cells + 1) (slots + 6) Q) : W p l e room_1 s m #[Value.ref b] below meth c H locs cells slots Q (F0 m 364 ls []) := by
  refine lv_aload_n cx.1 cx.2.1 dL_law_364 rfl (lv_at hl 2 rfl) ?_
  refine lv_aload_n cx.1 cx.2.1 dL_law_365 rfl (lv_at hl 1 rfl) ?_
  refine lv_iload cx.1 cx.2.1 dL_law_366 (lv_at hl 0 rfl) ?_
  refine lv_iconst (v := 1) cx.1 cx.2.1 dL_law_368 (by decide) ?_
  refine lv_iadd cx.1 cx.2.1 dL_law_369 ?_
  refine k_sld 1 cx hX hbl hbA hI rfl (by omega) hL dL_law_370 ?_
  refine lv_aload_n cx.1 cx.2.1 dL_law_371 rfl (lv_at hl 1 rfl) ?_
  refine lv_iload cx.1 cx.2.1 dL_law_372 (lv_at hl 0 rfl) ?_
  refine lv_iconst (v := 2) cx.1 cx.2.1 dL_law_374 (by decide) ?_
  refine lv_iadd cx.1 cx.2.1 dL_law_375 ?_
  refine k_sld 2 cx hX hbl hbA hI rfl (by omega) hL dL_law_376 ?_
  refine k_callH 3 (ow oa ca f) (mw ma ca w) cx hE (hl.1.trans hml.symm) (kL_start l D ca xa v (xs (4 * k + 1)) (xs (4 * k + 2)) hlS) hI rfl (W1 := (ow oa ca f ++ (xw xa ca (kSt (xfStart v (xs (4 * k + 1)) (xs (4 * k + 2))) v (xStart v (xs (4 * k + 1)) (xs (4 * k + 2)))) ++ mw ma ca w))) rfl xw_ad wk_322 wk_320 wk_321 wk_0 ⟨by decide, by decide, by decide +kernel⟩ rfl ⟨rfl, rfl⟩ ⟨Nat.le_of_ble_eq_true rfl, Nat.le_of_ble_eq_true rfl⟩ (Nat.le_of_ble_eq_true rfl) dL_law_377 hf rfl (fun H locs hI => ?_)
  refine lv_istore (lv' := [(5, .int (nI (xfStart v (xs (4 * k + 1)) (xs (4 * k + 2))))), (4, .int (nI (4 * k))), (0, .ref b), (1, .ref (xa 0)), (2, .ref (ma 0)), (3, .ref oa)]) cx.1 cx.2.1 dL_law_380 hl (by decide) rfl (fun ls hl => ?_)
  refine lv_aload_n cx.1 cx.2.1 dL_law_382 rfl (lv_at hl 4 rfl) ?_
  refine lv_aload_n cx.1 cx.2.1 dL_law_383 rfl (lv_at hl 2 rfl) ?_
  refine lv_iload cx.1 cx.2.1 dL_law_384 (lv_at hl 1 rfl) ?_
  refine lv_iconst (v := 1) cx.1 cx.2.1 dL_law_386 (by decide) ?_
  refine lv_iadd cx.1 cx.2.1 dL_law_387 ?_
  refine k_sld 1 cx hX hbl hbA hI rfl (by omega) hL dL_law_388 ?_
  refine lv_aload_n cx.1 cx.2.1 dL_law_389 rfl (lv_at hl 2 rfl) ?_
  refine lv_iload cx.1 cx.2.1 dL_law_390 (lv_at hl 1 rfl) ?_
  refine lv_iconst (v := 2) cx.1 cx.2.1 dL_law_392 (by decide) ?_
  refine lv_iadd cx.1 cx.2.1 dL_law_393 ?_
  refine k_sld 2 cx hX hbl hbA hI rfl (by omega) hL dL_law_394 ?_
  refine k_callV (C := RX1) (T := TX1) (N := 13) (ci := 1) 2 (ow oa ca f ++ xw xa ca (kSt (xfStart v (xs (4 * k + 1)) (xs (4 * k + 2))) v (xStart v (xs (4 * k + 1)) (xs (4 * k + 2))))) [] cx (hl.1.trans hml.symm) (kX1_start l D ca ma w (xs (4 * k + 1)) (xs (4 * k + 2))) hI rfl (W1 := (ow oa ca f ++ (xw xa ca (kSt (xfStart v (xs (4 * k + 1)) (xs (4 * k + 2))) v (xStart v (xs (4 * k + 1)) (xs (4 * k + 2)))) ++ mw ma ca (mStart w (xs (4 * k + 1)) (xs (4 * k + 2)))))) rfl mw_ad rfl rfl wk_547 wk_544 wk_545 wk_546 wk_3 ⟨rfl, by decide, by decide, by decide +kernel⟩ rfl ⟨rfl, rfl⟩ ⟨Nat.le_of_ble_eq_true rfl, Nat.le_of_ble_eq_true rfl⟩ (Nat.le_of_ble_eq_true rfl) dL_law_395 hf rfl (fun H locs hI => ?_)
  refine lv_aload_n cx.1 cx.2.1 dL_law_398 rfl (lv_at hl 4 rfl) ?_
  refine k_callV (C := RX1) (T := TX1) (N := 13) (ci := 1) 0 (ow oa ca f ++ xw xa ca (kSt (xfStart v (xs (4 * k + 1)) (xs (4 * k + 2))) v (xStart v (xs (4 * k + 1)) (xs (4 * k + 2))))) [] cx (hl.1.trans hml.symm) (kX1_thrown l D ca ma (mStart w (xs (4 * k + 1)) (xs (4 * k + 2)))) hI rfl (W1 := (ow oa ca f ++ (xw xa ca (kSt (xfStart v (xs (4 * k + 1)) (xs (4 * k + 2))) v (xStart v (xs (4 * k + 1)) (xs (4 * k + 2)))) ++ mw ma ca (mStart w (xs (4 * k + 1)) (xs (4 * k + 2)))))) rfl mw_ad rfl rfl wk_486 wk_483 wk_484 wk_485 wk_3 ⟨rfl, by decide, by decide, by decide +kernel⟩ rfl ⟨rfl, rfl⟩ ⟨Nat.le_of_ble_eq_true rfl, Nat.le_of_ble_eq_true rfl⟩ (Nat.le_of_ble_eq_true rfl) dL_law_399 hf rfl (fun H locs hI => ?_)
  refine k_top (y := nI (xfStart v (xs (4 * k + 1)) (xs (4 * k + 2)))) ((Z_start w _ _).trans (f_start hS _ _)) ?_
  refine lv_iload cx.1 cx.2.1 dL_law_402 (lv_at hl 0 rfl) ?_
  refine lv_icmp_eq (tgt := 409) cx.1 cx.2.1 dL_law_404 (by decide) (fun _ => ?_) (fun h9 => absurd rfl h9)
  refine lv_goto (tgt := 1061) cx.1 cx.2.1 dL_law_409 (by decide) ?_
  exact kk _ _ _ _ _ _ hI (SR_up (SR_start hS _ _) (by omega)) (lv_sub hl [1, 2, 3, 4, 5] rfl)
set_option maxHeartbeats 4000000 in
set_option maxRecDepth 100000 in
theorem ka_setPace (l : Launch) {p : Program} {e : Env} {s : State} {m : MethodId} {below : List Frame} {meth : Method} {c : Code} {H : Heap} {locs : List Loc} {cells slots : Nat} {Q : State → Prop} {ls : Array Slot} {D : va_G} {ca : Nat → ClassId} {xa ma : Nat → Nat} {A : Nat → Prop} {oa b L k : Nat} {xs : Nat → Int32} {f : Nat → Int64} {v : XS} {w : MS} (cx : KC p c code s #[Value.ref b] m RL D ca) (hml : c.maxLocals = 7) (hE : KE A s s.heap) (hlS : l.stackTraces = false) (hX : va_X b L xs s s.heap) (hbl : b < s.heap.size) (hbA : ¬ A b) (hL : L ≤ 2048) (hi : 4 * k + 4 ≤ L) (hf : cells + 1 ≤ room_1.cells ∧ slots + 6 ≤ room_1.slots) (hI : KI D A (ow oa ca f ++ (xw xa ca v ++ mw ma ca w)) s.heap H locs) (hS : SR (2 * k) v w) (hl : lv_has ls 7 [(4, .int (nI (4 * k))), (0, .ref b), (1, .ref (xa 0)), (2, .ref (ma 0)), (3, .ref oa)]) (kk : LBk l p e s m below meth c D ca xa ma A oa b k (cells + 1) (slots + 6) Q) : W p l e room_1 s m #[Value.ref b] below meth c H locs cells slots Q (F0 m 412 ls []) := by
  refine lv_aload_n cx.1 cx.2.1 dL_law_412 rfl (lv_at hl 2 rfl) ?_
  refine lv_aload_n cx.1 cx.2.1 dL_law_413 rfl (lv_at hl 1 rfl) ?_
  refine lv_iload cx.1 cx.2.1 dL_law_414 (lv_at hl 0 rfl) ?_
  refine lv_iconst (v := 1) cx.1 cx.2.1 dL_law_416 (by decide) ?_
  refine lv_iadd cx.1 cx.2.1 dL_law_417 ?_
  refine k_sld 1 cx hX hbl hbA hI rfl (by omega) hL dL_law_418 ?_
  refine lv_aload_n cx.1 cx.2.1 dL_law_419 rfl (lv_at hl 1 rfl) ?_
  refine lv_iload cx.1 cx.2.1 dL_law_420 (lv_at hl 0 rfl) ?_
  refine lv_iconst (v := 2) cx.1 cx.2.1 dL_law_422 (by decide) ?_
  refine lv_iadd cx.1 cx.2.1 dL_law_423 ?_
  refine k_sld 2 cx hX hbl hbA hI rfl (by omega) hL dL_law_424 ?_
  refine k_callH 3 (ow oa ca f) (mw ma ca w) cx hE (hl.1.trans hml.symm) (kL_setPace l D ca xa v (xs (4 * k + 1)) (xs (4 * k + 2)) hlS) hI rfl (W1 := (ow oa ca f ++ (xw xa ca (kSt (xfPace (xs (4 * k + 1)) (xs (4 * k + 2))) v (xUl (xUk v (xs (4 * k + 1))) (xs (4 * k + 2)))) ++ mw ma ca w))) rfl xw_ad wk_331 wk_329 wk_330 wk_0 ⟨by decide, by decide, by decide +kernel⟩ rfl ⟨rfl, rfl⟩ ⟨Nat.le_of_ble_eq_true rfl, Nat.le_of_ble_eq_true rfl⟩ (Nat.le_of_ble_eq_true rfl) dL_law_425 hf rfl (fun H locs hI => ?_)
  refine lv_istore (lv' := [(5, .int (nI (xfPace (xs (4 * k + 1)) (xs (4 * k + 2))))), (4, .int (nI (4 * k))), (0, .ref b), (1, .ref (xa 0)), (2, .ref (ma 0)), (3, .ref oa)]) cx.1 cx.2.1 dL_law_428 hl (by decide) rfl (fun ls hl => ?_)
  refine lv_aload_n cx.1 cx.2.1 dL_law_430 rfl (lv_at hl 4 rfl) ?_
  refine lv_aload_n cx.1 cx.2.1 dL_law_431 rfl (lv_at hl 2 rfl) ?_
  refine lv_iload cx.1 cx.2.1 dL_law_432 (lv_at hl 1 rfl) ?_
  refine lv_iconst (v := 1) cx.1 cx.2.1 dL_law_434 (by decide) ?_
  refine lv_iadd cx.1 cx.2.1 dL_law_435 ?_
  refine k_sld 1 cx hX hbl hbA hI rfl (by omega) hL dL_law_436 ?_
  refine lv_aload_n cx.1 cx.2.1 dL_law_437 rfl (lv_at hl 2 rfl) ?_
  refine lv_iload cx.1 cx.2.1 dL_law_438 (lv_at hl 1 rfl) ?_
  refine lv_iconst (v := 2) cx.1 cx.2.1 dL_law_440 (by decide) ?_
  refine lv_iadd cx.1 cx.2.1 dL_law_441 ?_
  refine k_sld 2 cx hX hbl hbA hI rfl (by omega) hL dL_law_442 ?_
  refine k_callV (C := RX1) (T := TX1) (N := 13) (ci := 1) 2 (ow oa ca f ++ xw xa ca (kSt (xfPace (xs (4 * k + 1)) (xs (4 * k + 2))) v (xUl (xUk v (xs (4 * k + 1))) (xs (4 * k + 2))))) [] cx (hl.1.trans hml.symm) (kX1_setPace l D ca ma w (xs (4 * k + 1)) (xs (4 * k + 2))) hI rfl (W1 := (ow oa ca f ++ (xw xa ca (kSt (xfPace (xs (4 * k + 1)) (xs (4 * k + 2))) v (xUl (xUk v (xs (4 * k + 1))) (xs (4 * k + 2)))) ++ mw ma ca (mPace w (xs (4 * k + 1)) (xs (4 * k + 2)))))) rfl mw_ad rfl rfl wk_555 wk_552 wk_553 wk_554 wk_3 ⟨rfl, by decide, by decide, by decide +kernel⟩ rfl ⟨rfl, rfl⟩ ⟨Nat.le_of_ble_eq_true rfl, Nat.le_of_ble_eq_true rfl⟩ (Nat.le_of_ble_eq_true rfl) dL_law_443 hf rfl (fun H locs hI => ?_)
  refine lv_aload_n cx.1 cx.2.1 dL_law_446 rfl (lv_at hl 4 rfl) ?_
  refine k_callV (C := RX1) (T := TX1) (N := 13) (ci := 1) 0 (ow oa ca f ++ xw xa ca (kSt (xfPace (xs (4 * k + 1)) (xs (4 * k + 2))) v (xUl (xUk v (xs (4 * k + 1))) (xs (4 * k + 2))))) [] cx (hl.1.trans hml.symm) (kX1_thrown l D ca ma (mPace w (xs (4 * k + 1)) (xs (4 * k + 2)))) hI rfl (W1 := (ow oa ca f ++ (xw xa ca (kSt (xfPace (xs (4 * k + 1)) (xs (4 * k + 2))) v (xUl (xUk v (xs (4 * k + 1))) (xs (4 * k + 2)))) ++ mw ma ca (mPace w (xs (4 * k + 1)) (xs (4 * k + 2)))))) rfl mw_ad rfl rfl wk_486 wk_483 wk_484 wk_485 wk_3 ⟨rfl, by decide, by decide, by decide +kernel⟩ rfl ⟨rfl, rfl⟩ ⟨Nat.le_of_ble_eq_true rfl, Nat.le_of_ble_eq_true rfl⟩ (Nat.le_of_ble_eq_true rfl) dL_law_447 hf rfl (fun H locs hI => ?_)
  refine k_top (y := nI (xfPace (xs (4 * k + 1)) (xs (4 * k + 2)))) ((Z_pace w _ _).trans (f_pace _ _)) ?_
  refine lv_iload cx.1 cx.2.1 dL_law_450 (lv_at hl 0 rfl) ?_
  refine lv_icmp_eq (tgt := 457) cx.1 cx.2.1 dL_law_452 (by decide) (fun _ => ?_) (fun h9 => absurd rfl h9)
  refine lv_goto (tgt := 1061) cx.1 cx.2.1 dL_law_457 (by decide) ?_
  exact kk _ _ _ _ _ _ hI (SR_up (SR_pace hS _ _) (by omega)) (lv_sub hl [1, 2, 3, 4, 5] rfl)
set_option maxHeartbeats 4000000 in
set_option maxRecDepth 100000 in
theorem ka_undo (l : Launch) {p : Program} {e : Env} {s : State} {m : MethodId} {below : List Frame} {meth : Method} {c : Code} {H : Heap} {locs : List Loc} {cells slots : Nat} {Q : State → Prop} {ls : Array Slot} {D : va_G} {ca : Nat → ClassId} {xa ma : Nat → Nat} {A : Nat → Prop} {oa b L k : Nat} {xs : Nat → Int32} {f : Nat → Int64} {v : XS} {w : MS} (cx : KC p c code s #[Value.ref b] m RL D ca) (hml : c.maxLocals = 7) (hE : KE A s s.heap) (hlS : l.stackTraces = false) (hX : va_X b L xs s s.heap) (hbl : b < s.heap.size) (hbA : ¬ A b) (hL : L ≤ 2048) (hi : 4 * k + 4 ≤ L) (hf : cells + 1 ≤ room_1.cells ∧ slots + 6 ≤ room_1.slots) (hI : KI D A (ow oa ca f ++ (xw xa ca v ++ mw ma ca w)) s.heap H locs) (hS : SR (2 * k) v w) (hl : lv_has ls 7 [(4, .int (nI (4 * k))), (0, .ref b), (1, .ref (xa 0)), (2, .ref (ma 0)), (3, .ref oa)]) (kk : LBk l p e s m below meth c D ca xa ma A oa b k (cells + 1) (slots + 6) Q) : W p l e room_1 s m #[Value.ref b] below meth c H locs cells slots Q (F0 m 572 ls []) := by
  refine lv_aload_n cx.1 cx.2.1 dL_law_572 rfl (lv_at hl 2 rfl) ?_
  refine k_callH 1 (ow oa ca f) (mw ma ca w) cx hE (hl.1.trans hml.symm) (kL_undo l D ca xa v hlS) hI rfl (W1 := (ow oa ca f ++ (xw xa ca (kSt (xfUndo v) v (xUp v 1)) ++ mw ma ca w))) rfl xw_ad wk_368 wk_366 wk_367 wk_0 ⟨by decide, by decide, by decide +kernel⟩ rfl ⟨rfl, rfl⟩ ⟨Nat.le_of_ble_eq_true rfl, Nat.le_of_ble_eq_true rfl⟩ (Nat.le_of_ble_eq_true rfl) dL_law_573 hf rfl (fun H locs hI => ?_)
  refine lv_istore (lv' := [(5, .int (nI (xfUndo v))), (4, .int (nI (4 * k))), (0, .ref b), (1, .ref (xa 0)), (2, .ref (ma 0)), (3, .ref oa)]) cx.1 cx.2.1 dL_law_576 hl (by decide) rfl (fun ls hl => ?_)
  refine lv_aload_n cx.1 cx.2.1 dL_law_578 rfl (lv_at hl 4 rfl) ?_
  refine k_callV (C := RX1) (T := TX1) (N := 13) (ci := 1) 0 (ow oa ca f ++ xw xa ca (kSt (xfUndo v) v (xUp v 1))) [] cx (hl.1.trans hml.symm) (kX1_undo l D ca ma w) hI rfl (W1 := (ow oa ca f ++ (xw xa ca (kSt (xfUndo v) v (xUp v 1)) ++ mw ma ca (mUndo w)))) rfl mw_ad rfl rfl wk_571 wk_568 wk_569 wk_570 wk_3 ⟨rfl, by decide, by decide, by decide +kernel⟩ rfl ⟨rfl, rfl⟩ ⟨Nat.le_of_ble_eq_true rfl, Nat.le_of_ble_eq_true rfl⟩ (Nat.le_of_ble_eq_true rfl) dL_law_579 hf rfl (fun H locs hI => ?_)
  refine lv_aload_n cx.1 cx.2.1 dL_law_582 rfl (lv_at hl 4 rfl) ?_
  refine k_callV (C := RX1) (T := TX1) (N := 13) (ci := 1) 0 (ow oa ca f ++ xw xa ca (kSt (xfUndo v) v (xUp v 1))) [] cx (hl.1.trans hml.symm) (kX1_thrown l D ca ma (mUndo w)) hI rfl (W1 := (ow oa ca f ++ (xw xa ca (kSt (xfUndo v) v (xUp v 1)) ++ mw ma ca (mUndo w)))) rfl mw_ad rfl rfl wk_486 wk_483 wk_484 wk_485 wk_3 ⟨rfl, by decide, by decide, by decide +kernel⟩ rfl ⟨rfl, rfl⟩ ⟨Nat.le_of_ble_eq_true rfl, Nat.le_of_ble_eq_true rfl⟩ (Nat.le_of_ble_eq_true rfl) dL_law_583 hf rfl (fun H locs hI => ?_)
  refine k_top (y := nI (xfUndo v)) ((Z_undo w).trans (f_undo hS)) ?_
  refine lv_iload cx.1 cx.2.1 dL_law_586 (lv_at hl 0 rfl) ?_
  refine lv_icmp_eq (tgt := 593) cx.1 cx.2.1 dL_law_588 (by decide) (fun _ => ?_) (fun h9 => absurd rfl h9)
  refine lv_goto (tgt := 1061) cx.1 cx.2.1 dL_law_593 (by decide) ?_
  exact kk _ _ _ _ _ _ hI (SR_up (SR_undo hS) (by omega)) (lv_sub hl [1, 2, 3, 4, 5] rfl)

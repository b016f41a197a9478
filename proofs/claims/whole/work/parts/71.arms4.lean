set_option maxHeartbeats 4000000 in
set_option maxRecDepth 100000 in
theorem ka_tick (l : Launch) {p : Program} {e : Env} {s : State} {m : MethodId} {below : List Frame} {meth : Method} {c : Code} {H : Heap} {locs : List Loc} {cells slots : Nat} {Q : State → Prop} {ls : Array Slot} {D : va_G} {ca : Nat → ClassId} {xa ma : Nat → Nat} {A : Nat → Prop} {oa b L k : Nat} {xs : Nat → Int32} {f : Nat → Int64} {v : XS} {w : MS} (cx : KC p c code s #[Value.ref b] m RL D ca) (hml : c.maxLocals = 7) (hE : KE A s s.heap) (hlS : l.stackTraces = false) (hX : va_X b L xs s s.heap) (hbl : b < s.heap.size) (hbA : ¬ A b) (hL : L ≤ 2048) (hi : 4 * k + 4 ≤ L) (hf : cells + 1 ≤ room_1.cells ∧ slots + 6 ≤ room_1.slots) (hI : KI D A (ow oa ca f ++ (xw xa ca v ++ mw ma ca w)) s.heap H locs) (hS : SR (2 * k) v w) (hl : lv_has ls 7 [(4, .int (nI (4 * k))), (0, .ref b), (1, .ref (xa 0)), (2, .ref (ma 0)), (3, .ref oa)]) (kk : LBk l p e s m below meth c D ca xa ma A oa b k (cells + 1) (slots + 6) Q) : W p l e room_1 s m #[Value.ref b] below meth c H locs cells slots Q (F0 m 460 ls []) := by
  obtain ⟨a0, b0, c0, ch, ha, hb, hc, hh1, hh, e1, e2, e3, e4, e5, e6, e7, hx⟩ := SR_nums hS (by omega)
  have g1 : ∀ j, j < min ch c0 → vp_in (xN v (nI j).toNatClampNeg) 40 := fun j hj => by rw [nI_clamp (by omega)]; exact (hx j (by omega)).2
  have g2 : (40 : Int32) ≤ mm w → ∀ j, j < min ch (if b0 = 40 then c0 else 40 - b0) → vp_in (mN w (nI j).toNatClampNeg) 40 := fun q j hj => by rw [e2] at q; rw [if_pos ((n40 hb).mp q)] at hj; rw [nI_clamp (by omega), ← (hx j (by omega)).1]; exact (hx j (by omega)).2
  have g3 : ¬ (40 : Int32) ≤ mm w → b0 + min ch (if b0 = 40 then c0 else 40 - b0) ≤ 40 := fun q => by rw [e2] at q; rw [if_neg (fun r => q ((n40 hb).mpr r))]; omega
  have g4 : (40 : Int32) ≤ mm w → mc w = nI (min ch (if b0 = 40 then c0 else 40 - b0) + (c0 - min ch (if b0 = 40 then c0 else 40 - b0))) := fun q => by rw [e2] at q; rw [if_pos ((n40 hb).mp q), e4]; congr 1; omega
  have g5 : min ch (if b0 = 40 then c0 else 40 - b0) ≤ 40 := by omega
  have g6 : min ch (if b0 = 40 then c0 else 40 - b0) + (c0 - min ch (if b0 = 40 then c0 else 40 - b0)) ≤ 2000 := by omega
  refine lv_aload_n cx.1 cx.2.1 dL_law_460 rfl (lv_at hl 2 rfl) ?_
  refine lv_aload_n cx.1 cx.2.1 dL_law_461 rfl (lv_at hl 1 rfl) ?_
  refine lv_iload cx.1 cx.2.1 dL_law_462 (lv_at hl 0 rfl) ?_
  refine lv_iconst (v := 1) cx.1 cx.2.1 dL_law_464 (by decide) ?_
  refine lv_iadd cx.1 cx.2.1 dL_law_465 ?_
  refine k_sld 1 cx hX hbl hbA hI rfl (by omega) hL dL_law_466 ?_
  refine lv_aload_n cx.1 cx.2.1 dL_law_467 rfl (lv_at hl 4 rfl) ?_
  refine k_callH 3 [] (mw ma ca w) cx hE (hl.1.trans hml.symm) (kL_tick l D ca xa oa f v (xs (4 * k + 1)) a0 (min 40 (a0 + ch) - a0) (min ch c0) c0 e1 (fun _ => e_copy ha hh e1 e5) (fun _ => by omega) (e_min (by omega) hh e3 e5) e3 (Nat.min_le_right _ _) (by omega) g1 hlS) hI rfl (W1 := (ow oa ca (kOf (xfTick v (xs (4 * k + 1))) f (if xs (4 * k + 1) ≤ xl v then (if 40 ≤ xm v then kMin (xk v) (xc v) else xCopyE v - xm v) else 0).toInt64) ++ (xw xa ca (kSt (xfTick v (xs (4 * k + 1))) v (if xs (4 * k + 1) ≤ xl v then (if 40 ≤ xm v then xPlay v (min ch c0) else xCopy v a0 (min 40 (a0 + ch) - a0)) else v)) ++ mw ma ca w))) rfl ox_ad wk_339 wk_337 wk_338 wk_0 ⟨by decide, by decide, by decide +kernel⟩ rfl ⟨rfl, rfl⟩ ⟨Nat.le_of_ble_eq_true rfl, Nat.le_of_ble_eq_true rfl⟩ (Nat.le_of_ble_eq_true rfl) dL_law_468 hf rfl (fun H locs hI => ?_)
  refine lv_istore (lv' := [(5, .int (nI (xfTick v (xs (4 * k + 1))))), (4, .int (nI (4 * k))), (0, .ref b), (1, .ref (xa 0)), (2, .ref (ma 0)), (3, .ref oa)]) cx.1 cx.2.1 dL_law_471 hl (by decide) rfl (fun ls hl => ?_)
  refine lv_aload_n cx.1 cx.2.1 dL_law_473 rfl (lv_at hl 4 rfl) ?_
  refine lv_aload_n cx.1 cx.2.1 dL_law_474 rfl (lv_at hl 2 rfl) ?_
  refine lv_iload cx.1 cx.2.1 dL_law_475 (lv_at hl 1 rfl) ?_
  refine lv_iconst (v := 1) cx.1 cx.2.1 dL_law_477 (by decide) ?_
  refine lv_iadd cx.1 cx.2.1 dL_law_478 ?_
  refine k_sld 1 cx hX hbl hbA hI rfl (by omega) hL dL_law_479 ?_
  refine k_callV (C := RX1) (T := TX1) (N := 13) (ci := 1) 1 (ow oa ca (kOf (xfTick v (xs (4 * k + 1))) f (if xs (4 * k + 1) ≤ xl v then (if 40 ≤ xm v then kMin (xk v) (xc v) else xCopyE v - xm v) else 0).toInt64) ++ xw xa ca (kSt (xfTick v (xs (4 * k + 1))) v (if xs (4 * k + 1) ≤ xl v then (if 40 ≤ xm v then xPlay v (min ch c0) else xCopy v a0 (min 40 (a0 + ch) - a0)) else v))) [] cx (hl.1.trans hml.symm) (kX1_tick l D ca ma w (xs (4 * k + 1)) (min ch (if b0 = 40 then c0 else 40 - b0)) (c0 - (min ch (if b0 = 40 then c0 else 40 - b0))) b0 e2 g3 (e_many hb (by omega) hh e2 e4 e6) g5 g4 g6 g2) hI rfl (W1 := (ow oa ca (kOf (xfTick v (xs (4 * k + 1))) f (if xs (4 * k + 1) ≤ xl v then (if 40 ≤ xm v then kMin (xk v) (xc v) else xCopyE v - xm v) else 0).toInt64) ++ (xw xa ca (kSt (xfTick v (xs (4 * k + 1))) v (if xs (4 * k + 1) ≤ xl v then (if 40 ≤ xm v then xPlay v (min ch c0) else xCopy v a0 (min 40 (a0 + ch) - a0)) else v)) ++ mw ma ca (mTick w (xs (4 * k + 1)) (min ch (if b0 = 40 then c0 else 40 - b0)) (c0 - (min ch (if b0 = 40 then c0 else 40 - b0))))))) rfl mw_ad rfl rfl wk_559 wk_556 wk_557 wk_558 wk_3 ⟨rfl, by decide, by decide, by decide +kernel⟩ rfl ⟨rfl, rfl⟩ ⟨Nat.le_of_ble_eq_true rfl, Nat.le_of_ble_eq_true rfl⟩ (Nat.le_of_ble_eq_true rfl) dL_law_480 hf rfl (fun H locs hI => ?_)
  refine lv_istore (lv' := [(6, .int (if mfTick w (xs (4 * k + 1)) = 0 then (if xs (4 * k + 1) ≤ ml w then mMany w else 0) else 0)), (5, .int (nI (xfTick v (xs (4 * k + 1))))), (4, .int (nI (4 * k))), (0, .ref b), (1, .ref (xa 0)), (2, .ref (ma 0)), (3, .ref oa)]) cx.1 cx.2.1 dL_law_483 hl (by decide) rfl (fun ls hl => ?_)
  refine lv_aload_n cx.1 cx.2.1 dL_law_485 rfl (lv_at hl 5 rfl) ?_
  refine k_callV (C := RX1) (T := TX1) (N := 13) (ci := 1) 0 (ow oa ca (kOf (xfTick v (xs (4 * k + 1))) f (if xs (4 * k + 1) ≤ xl v then (if 40 ≤ xm v then kMin (xk v) (xc v) else xCopyE v - xm v) else 0).toInt64) ++ xw xa ca (kSt (xfTick v (xs (4 * k + 1))) v (if xs (4 * k + 1) ≤ xl v then (if 40 ≤ xm v then xPlay v (min ch c0) else xCopy v a0 (min 40 (a0 + ch) - a0)) else v))) [] cx (hl.1.trans hml.symm) (kX1_thrown l D ca ma (mTick w (xs (4 * k + 1)) (min ch (if b0 = 40 then c0 else 40 - b0)) (c0 - (min ch (if b0 = 40 then c0 else 40 - b0))))) hI rfl (W1 := (ow oa ca (kOf (xfTick v (xs (4 * k + 1))) f (if xs (4 * k + 1) ≤ xl v then (if 40 ≤ xm v then kMin (xk v) (xc v) else xCopyE v - xm v) else 0).toInt64) ++ (xw xa ca (kSt (xfTick v (xs (4 * k + 1))) v (if xs (4 * k + 1) ≤ xl v then (if 40 ≤ xm v then xPlay v (min ch c0) else xCopy v a0 (min 40 (a0 + ch) - a0)) else v)) ++ mw ma ca (mTick w (xs (4 * k + 1)) (min ch (if b0 = 40 then c0 else 40 - b0)) (c0 - (min ch (if b0 = 40 then c0 else 40 - b0))))))) rfl mw_ad rfl rfl wk_486 wk_483 wk_484 wk_485 wk_3 ⟨rfl, by decide, by decide, by decide +kernel⟩ rfl ⟨rfl, rfl⟩ ⟨Nat.le_of_ble_eq_true rfl, Nat.le_of_ble_eq_true rfl⟩ (Nat.le_of_ble_eq_true rfl) dL_law_486 hf rfl (fun H locs hI => ?_)
  refine k_top (y := nI (xfTick v (xs (4 * k + 1)))) ((Z_tick w _ _ _).trans (f_tick hS _)) ?_
  refine lv_iload cx.1 cx.2.1 dL_law_489 (lv_at hl 1 rfl) ?_
  refine lv_icmp_eq (tgt := 496) cx.1 cx.2.1 dL_law_491 (by decide) (fun _ => ?_) (fun h9 => absurd rfl h9)
  refine lv_iload cx.1 cx.2.1 dL_law_496 (lv_at hl 1 rfl) ?_
  refine lv_if_ne (tgt := 513) cx.1 cx.2.1 dL_law_498 (by decide) (fun _ => ?_) (fun h9 => ?_)
  · refine lv_goto (tgt := 1061) cx.1 cx.2.1 dL_law_513 (by decide) ?_
    exact kk _ _ _ _ _ _ hI (SR_up (SR_tick hS (by omega) _ ha hb hc hh1 hh e1 e2 e3 e4 e5 e6 e7 hx) (by omega)) (lv_sub hl [2, 3, 4, 5, 6] rfl)
  · have h9 := fn0 h9 (xfTick_s v (xs (4 * k + 1)))
    refine lv_aload_n cx.1 cx.2.1 dL_law_501 rfl (lv_at hl 6 rfl) ?_
    refine lv_iconst (v := 0) cx.1 cx.2.1 dL_law_502 (by decide) ?_
    refine kl_ld cx hI dL_law_503 ?_
    refine lv_iload cx.1 cx.2.1 dL_law_504 (lv_at hl 0 rfl) ?_
    refine lv_i2l cx.1 cx.2.1 dL_law_506 rfl ?_
    refine W.lcmp cx.1 cx.2.1 dL_law_507 ?_
    refine k_top (y := 0) (kl_cmp h9 (congrArg Int32.toInt64 (A_tick hS (by omega) _ ha hb hc hh e1 e2 e3 e4 e5 e6 e7 h9))) ?_
    refine lv_if_eq (tgt := 513) cx.1 cx.2.1 dL_law_508 (by decide) (fun _ => ?_) (fun h8 => absurd rfl h8)
    refine lv_goto (tgt := 1061) cx.1 cx.2.1 dL_law_513 (by decide) ?_
    exact kk _ _ _ _ _ _ hI (SR_up (SR_tick hS (by omega) _ ha hb hc hh1 hh e1 e2 e3 e4 e5 e6 e7 hx) (by omega)) (lv_sub hl [2, 3, 4, 5, 6] rfl)
set_option maxHeartbeats 4000000 in
set_option maxRecDepth 100000 in
theorem ka_giveUp (l : Launch) {p : Program} {e : Env} {s : State} {m : MethodId} {below : List Frame} {meth : Method} {c : Code} {H : Heap} {locs : List Loc} {cells slots : Nat} {Q : State → Prop} {ls : Array Slot} {D : va_G} {ca : Nat → ClassId} {xa ma : Nat → Nat} {A : Nat → Prop} {oa b L k : Nat} {xs : Nat → Int32} {f : Nat → Int64} {v : XS} {w : MS} (cx : KC p c code s #[Value.ref b] m RL D ca) (hml : c.maxLocals = 7) (hE : KE A s s.heap) (hlS : l.stackTraces = false) (hX : va_X b L xs s s.heap) (hbl : b < s.heap.size) (hbA : ¬ A b) (hL : L ≤ 2048) (hi : 4 * k + 4 ≤ L) (hf : cells + 1 ≤ room_1.cells ∧ slots + 6 ≤ room_1.slots) (hI : KI D A (ow oa ca f ++ (xw xa ca v ++ mw ma ca w)) s.heap H locs) (hS : SR (2 * k) v w) (hl : lv_has ls 7 [(4, .int (nI (4 * k))), (0, .ref b), (1, .ref (xa 0)), (2, .ref (ma 0)), (3, .ref oa)]) (kk : LBk l p e s m below meth c D ca xa ma A oa b k (cells + 1) (slots + 6) Q) : W p l e room_1 s m #[Value.ref b] below meth c H locs cells slots Q (F0 m 640 ls []) := by
  refine lv_aload_n cx.1 cx.2.1 dL_law_640 rfl (lv_at hl 2 rfl) ?_
  refine lv_aload_n cx.1 cx.2.1 dL_law_641 rfl (lv_at hl 4 rfl) ?_
  refine k_callH 2 [] (mw ma ca w) cx hE (hl.1.trans hml.symm) (kL_giveUp l D ca xa oa f v hlS) hI rfl (W1 := (ow oa ca (kOf (xfGive v) f (xShRows v 40).toInt64) ++ (xw xa ca (kSt (xfGive v) v (xEnd v)) ++ mw ma ca w))) rfl ox_ad wk_391 wk_389 wk_390 wk_0 ⟨by decide, by decide, by decide +kernel⟩ rfl ⟨rfl, rfl⟩ ⟨Nat.le_of_ble_eq_true rfl, Nat.le_of_ble_eq_true rfl⟩ (Nat.le_of_ble_eq_true rfl) dL_law_642 hf rfl (fun H locs hI => ?_)
  refine lv_istore (lv' := [(5, .int (nI (xfGive v))), (4, .int (nI (4 * k))), (0, .ref b), (1, .ref (xa 0)), (2, .ref (ma 0)), (3, .ref oa)]) cx.1 cx.2.1 dL_law_645 hl (by decide) rfl (fun ls hl => ?_)
  refine lv_aload_n cx.1 cx.2.1 dL_law_647 rfl (lv_at hl 4 rfl) ?_
  refine k_callV (C := RX1) (T := TX1) (N := 13) (ci := 1) 0 (ow oa ca (kOf (xfGive v) f (xShRows v 40).toInt64) ++ xw xa ca (kSt (xfGive v) v (xEnd v))) [] cx (hl.1.trans hml.symm) (kX1_giveUp l D ca ma w) hI rfl (W1 := (ow oa ca (kOf (xfGive v) f (xShRows v 40).toInt64) ++ (xw xa ca (kSt (xfGive v) v (xEnd v)) ++ mw ma ca (mGive w)))) rfl mw_ad rfl rfl wk_579 wk_576 wk_577 wk_578 wk_3 ⟨rfl, by decide, by decide, by decide +kernel⟩ rfl ⟨rfl, rfl⟩ ⟨Nat.le_of_ble_eq_true rfl, Nat.le_of_ble_eq_true rfl⟩ (Nat.le_of_ble_eq_true rfl) dL_law_648 hf rfl (fun H locs hI => ?_)
  refine lv_istore (lv' := [(6, .int (if mfGive w = 0 then mShd (mUz w (mfGive w)) 40 else 0)), (5, .int (nI (xfGive v))), (4, .int (nI (4 * k))), (0, .ref b), (1, .ref (xa 0)), (2, .ref (ma 0)), (3, .ref oa)]) cx.1 cx.2.1 dL_law_651 hl (by decide) rfl (fun ls hl => ?_)
  refine lv_aload_n cx.1 cx.2.1 dL_law_653 rfl (lv_at hl 5 rfl) ?_
  refine k_callV (C := RX1) (T := TX1) (N := 13) (ci := 1) 0 (ow oa ca (kOf (xfGive v) f (xShRows v 40).toInt64) ++ xw xa ca (kSt (xfGive v) v (xEnd v))) [] cx (hl.1.trans hml.symm) (kX1_thrown l D ca ma (mGive w)) hI rfl (W1 := (ow oa ca (kOf (xfGive v) f (xShRows v 40).toInt64) ++ (xw xa ca (kSt (xfGive v) v (xEnd v)) ++ mw ma ca (mGive w)))) rfl mw_ad rfl rfl wk_486 wk_483 wk_484 wk_485 wk_3 ⟨rfl, by decide, by decide, by decide +kernel⟩ rfl ⟨rfl, rfl⟩ ⟨Nat.le_of_ble_eq_true rfl, Nat.le_of_ble_eq_true rfl⟩ (Nat.le_of_ble_eq_true rfl) dL_law_654 hf rfl (fun H locs hI => ?_)
  refine k_top (y := nI (xfGive v)) ((Z_give w).trans (f_give hS)) ?_
  refine lv_iload cx.1 cx.2.1 dL_law_657 (lv_at hl 1 rfl) ?_
  refine lv_icmp_eq (tgt := 664) cx.1 cx.2.1 dL_law_659 (by decide) (fun _ => ?_) (fun h9 => absurd rfl h9)
  refine lv_iload cx.1 cx.2.1 dL_law_664 (lv_at hl 1 rfl) ?_
  refine lv_if_ne (tgt := 681) cx.1 cx.2.1 dL_law_666 (by decide) (fun _ => ?_) (fun h9 => ?_)
  · refine lv_goto (tgt := 1061) cx.1 cx.2.1 dL_law_681 (by decide) ?_
    exact kk _ _ _ _ _ _ hI (SR_up (SR_give hS) (by omega)) (lv_sub hl [2, 3, 4, 5, 6] rfl)
  · have h9 := fn0 h9 (xfGive_s v)
    refine lv_aload_n cx.1 cx.2.1 dL_law_669 rfl (lv_at hl 6 rfl) ?_
    refine lv_iconst (v := 0) cx.1 cx.2.1 dL_law_670 (by decide) ?_
    refine kl_ld cx hI dL_law_671 ?_
    refine lv_iload cx.1 cx.2.1 dL_law_672 (lv_at hl 0 rfl) ?_
    refine lv_i2l cx.1 cx.2.1 dL_law_674 rfl ?_
    refine W.lcmp cx.1 cx.2.1 dL_law_675 ?_
    refine k_top (y := 0) (kl_cmp h9 (congrArg Int32.toInt64 (A_give hS h9))) ?_
    refine lv_if_eq (tgt := 681) cx.1 cx.2.1 dL_law_676 (by decide) (fun _ => ?_) (fun h8 => absurd rfl h8)
    refine lv_goto (tgt := 1061) cx.1 cx.2.1 dL_law_681 (by decide) ?_
    exact kk _ _ _ _ _ _ hI (SR_up (SR_give hS) (by omega)) (lv_sub hl [2, 3, 4, 5, 6] rfl)

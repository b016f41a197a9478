/-! MINE: the law's loop. -/
theorem kl_le {L k : Nat} (hL : L ≤ 2048) (hk : 4 * k ≤ L) (h : ¬ Int32.ofNat L - 4 < nI (4 * k)) : 4 * k + 4 ≤ L := by
  have e : (Int32.ofNat L - 4).toInt = (L : Int) - 4 := pk_sub_toInt (a := L) (b := 4) (by omega) (by decide)
  rw [Int32.lt_iff_toInt_lt, e, nI_toInt (by omega)] at h
  omega
theorem nI_4 (k : Nat) : nI (4 * k) + 4 = nI (4 * (k + 1)) := by
  rw [show (4 : Int32) = nI 4 from rfl, nI_add]
  congr 1
theorem room_c : room_1.cells = 601024 := rfl
theorem room_s : room_1.slots = 7293034 := rfl
set_option maxHeartbeats 4000000 in
set_option maxRecDepth 100000 in
theorem ka_pick (l : Launch) {p : Program} {e : Env} {s : State} {m : MethodId} {below : List Frame} {meth : Method} {c : Code} {H : Heap} {locs : List Loc} {cells slots : Nat} {Q : State → Prop} {ls : Array Slot} {D : va_G} {ca : Nat → ClassId} {xa ma : Nat → Nat} {A : Nat → Prop} {oa b L k : Nat} {xs : Nat → Int32} {f : Nat → Int64} {v : XS} {w : MS} (cx : KC p c code s #[Value.ref b] m RL D ca) (hml : c.maxLocals = 7) (hE : KE A s s.heap) (hlS : l.stackTraces = false) (hX : va_X b L xs s s.heap) (hbl : b < s.heap.size) (hbA : ¬ A b) (hL : L ≤ 2048) (hi : 4 * k + 4 ≤ L) (hf : cells + 1 ≤ room_1.cells ∧ slots + 6 ≤ room_1.slots) (hI : KI D A (ow oa ca f ++ (xw xa ca v ++ mw ma ca w)) s.heap H locs) (hS : SR (2 * k) v w) (hl : lv_has ls 7 [(4, .int (nI (4 * k))), (0, .ref b), (1, .ref (xa 0)), (2, .ref (ma 0)), (3, .ref oa)]) (kk : LBk l p e s m below meth c D ca xa ma A oa b k (cells + 1) (slots + 6) Q) : W p l e room_1 s m #[Value.ref b] below meth c H locs cells slots Q (F0 m 32 ls []) := by
  refine lv_aload_n cx.1 cx.2.1 dL_law_32 rfl (lv_at hl 1 rfl) ?_
  refine lv_iload cx.1 cx.2.1 dL_law_33 (lv_at hl 0 rfl) ?_
  refine va_sld cx.1 cx.2.1 hX hbl hbA hI.2.2.1 (vp_in_nI (by omega) (by omega)) dL_law_35 ?_
  refine lv_bipush (v := 31) cx.1 cx.2.1 dL_law_36 (by decide) ?_
  refine lv_iand cx.1 cx.2.1 dL_law_38 ?_
  obtain ⟨j, hj, ej⟩ := pk_andE (xs (nI (4 * k)).toNatClampNeg) (m := 31) 5 (by decide)
  refine k_top ej ?_
  rcases (show j = 0 ∨ j = 1 ∨ j = 2 ∨ j = 3 ∨ j = 4 ∨ j = 5 ∨ j = 6 ∨ j = 7 ∨ j = 8 ∨ j = 9 ∨ j = 10 ∨ j = 11 ∨ j = 12 ∨ j = 13 ∨ j = 14 ∨ j = 15 ∨ j = 16 ∨ j = 17 ∨ j = 18 ∨ j = 19 ∨ j = 20 ∨ j = 21 ∨ 22 ≤ j by omega) with rfl | rfl | rfl | rfl | rfl | rfl | rfl | rfl | rfl | rfl | rfl | rfl | rfl | rfl | rfl | rfl | rfl | rfl | rfl | rfl | rfl | rfl | hj2
  · refine lv_tableIn (off := 101) (tgt := 140) cx.1 cx.2.1 dL_law_39 (by decide) (by decide) rfl (by decide) ?_
    exact ka_insert l cx hml hE hlS hX hbl hbA hL hi hf hI hS hl kk
  · refine lv_tableIn (off := 161) (tgt := 200) cx.1 cx.2.1 dL_law_39 (by decide) (by decide) rfl (by decide) ?_
    exact ka_update l cx hml hE hlS hX hbl hbA hL hi hf hI hS hl kk
  · refine lv_tableIn (off := 221) (tgt := 260) cx.1 cx.2.1 dL_law_39 (by decide) (by decide) rfl (by decide) ?_
    exact ka_delete l cx hml hE hlS hX hbl hbA hL hi hf hI hS hl kk
  · refine lv_tableIn (off := 277) (tgt := 316) cx.1 cx.2.1 dL_law_39 (by decide) (by decide) rfl (by decide) ?_
    exact ka_rekey l cx hml hE hlS hX hbl hbA hL hi hf hI hS hl kk
  · refine lv_tableIn (off := 325) (tgt := 364) cx.1 cx.2.1 dL_law_39 (by decide) (by decide) rfl (by decide) ?_
    exact ka_start l cx hml hE hlS hX hbl hbA hL hi hf hI hS hl kk
  · refine lv_tableIn (off := 373) (tgt := 412) cx.1 cx.2.1 dL_law_39 (by decide) (by decide) rfl (by decide) ?_
    exact ka_setPace l cx hml hE hlS hX hbl hbA hL hi hf hI hS hl kk
  · refine lv_tableIn (off := 421) (tgt := 460) cx.1 cx.2.1 dL_law_39 (by decide) (by decide) rfl (by decide) ?_
    exact ka_tick l cx hml hE hlS hX hbl hbA hL hi hf hI hS hl kk
  · refine lv_tableIn (off := 477) (tgt := 516) cx.1 cx.2.1 dL_law_39 (by decide) (by decide) rfl (by decide) ?_
    exact ka_cutOver l cx hml hE hlS hX hbl hbA hL hi hf hI hS hl kk
  · refine lv_tableIn (off := 533) (tgt := 572) cx.1 cx.2.1 dL_law_39 (by decide) (by decide) rfl (by decide) ?_
    exact ka_undo l cx hml hE hlS hX hbl hbA hL hi hf hI hS hl kk
  · refine lv_tableIn (off := 557) (tgt := 596) cx.1 cx.2.1 dL_law_39 (by decide) (by decide) rfl (by decide) ?_
    exact ka_finish l cx hml hE hlS hX hbl hbA hL hi hf hI hS hl kk
  · refine lv_tableIn (off := 601) (tgt := 640) cx.1 cx.2.1 dL_law_39 (by decide) (by decide) rfl (by decide) ?_
    exact ka_giveUp l cx hml hE hlS hX hbl hbA hL hi hf hI hS hl kk
  · refine lv_tableIn (off := 645) (tgt := 684) cx.1 cx.2.1 dL_law_39 (by decide) (by decide) rfl (by decide) ?_
    exact ka_row l cx hml hE hlS hX hbl hbA hL hi hf hI hS hl kk
  · refine lv_tableIn (off := 701) (tgt := 740) cx.1 cx.2.1 dL_law_39 (by decide) (by decide) rfl (by decide) ?_
    exact ka_rows l cx hml hE hlS hX hbl hbA hL hi hf hI hS hl kk
  · refine lv_tableIn (off := 714) (tgt := 753) cx.1 cx.2.1 dL_law_39 (by decide) (by decide) rfl (by decide) ?_
    exact ka_phase l cx hml hE hlS hX hbl hbA hL hi hf hI hS hl kk
  · refine lv_tableIn (off := 727) (tgt := 766) cx.1 cx.2.1 dL_law_39 (by decide) (by decide) rfl (by decide) ?_
    exact ka_mark l cx hml hE hlS hX hbl hbA hL hi hf hI hS hl kk
  · refine lv_tableIn (off := 740) (tgt := 779) cx.1 cx.2.1 dL_law_39 (by decide) (by decide) rfl (by decide) ?_
    exact ka_notes l cx hml hE hlS hX hbl hbA hL hi hf hI hS hl kk
  · refine lv_tableIn (off := 753) (tgt := 792) cx.1 cx.2.1 dL_law_39 (by decide) (by decide) rfl (by decide) ?_
    exact ka_shadow l cx hml hE hlS hX hbl hbA hL hi hf hI hS hl kk
  · refine lv_tableIn (off := 821) (tgt := 860) cx.1 cx.2.1 dL_law_39 (by decide) (by decide) rfl (by decide) ?_
    exact ka_shadowRows l cx hml hE hlS hX hbl hbA hL hi hf hI hS hl kk
  · refine lv_tableIn (off := 834) (tgt := 873) cx.1 cx.2.1 dL_law_39 (by decide) (by decide) rfl (by decide) ?_
    exact ka_isRefused l cx hml hE hlS hX hbl hbA hL hi hf hI hS hl kk
  · refine lv_tableIn (off := 897) (tgt := 936) cx.1 cx.2.1 dL_law_39 (by decide) (by decide) rfl (by decide) ?_
    exact ka_behind l cx hml hE hlS hX hbl hbA hL hi hf hI hS hl kk
  · refine lv_tableIn (off := 910) (tgt := 949) cx.1 cx.2.1 dL_law_39 (by decide) (by decide) rfl (by decide) ?_
    exact ka_sum l cx hml hE hlS hX hbl hbA hL hi hf hI hS hl kk
  · refine lv_tableIn (off := 966) (tgt := 1005) cx.1 cx.2.1 dL_law_39 (by decide) (by decide) rfl (by decide) ?_
    exact ka_sumAtOnce l cx hml hE hlS hX hbl hbA hL hi hf hI hS hl kk
  · refine lv_tableOut (tgt := 1061) cx.1 cx.2.1 dL_law_39 (Or.inr (by rw [nI_toInt (by omega)]; omega)) (by decide) ?_
    refine W.widen (Nat.le_succ cells) (Nat.le_add_right slots 6) ?_
    exact kk _ _ _ _ _ _ hI (SR_up hS (by omega)) hl
set_option maxHeartbeats 4000000 in
set_option maxRecDepth 100000 in
theorem ka_loop (l : Launch) {p : Program} {e : Env} {s : State} {m : MethodId} {below : List Frame} {meth : Method} {c : Code} {D : va_G} {ca : Nat → ClassId} {xa ma : Nat → Nat} {oa b L : Nat} {xs : Nat → Int32} (cx : KC p c code s #[Value.ref b] m RL D ca) (hml : c.maxLocals = 7) (hr : meth.sig.returnType = ret) (hlk : meth.locks = false) (hE : KE (fun q => s.heap.size ≤ q) s s.heap) (hlS : l.stackTraces = false) (hX : va_X b L xs s s.heap) (hbl : b < s.heap.size) (hL : L ≤ 2048) : ∀ (n k : Nat), L ≤ 4 * k + n → 4 * k ≤ L → ∀ (H : Heap) (locs : List Loc) (ls : Array Slot) (v : XS) (w : MS) (f : Nat → Int64), KI D (fun q => s.heap.size ≤ q) (ow oa ca f ++ (xw xa ca v ++ mw ma ca w)) s.heap H locs → SR (2 * k) v w → lv_has ls 7 [(4, .int (nI (4 * k))), (0, .ref b), (1, .ref (xa 0)), (2, .ref (ma 0)), (3, .ref oa)] → W p l e room_1 s m #[Value.ref b] below meth c H locs (16 + k) (3533 + 6 * k) (lw_Z below #[Value.ref b] s) (F0 m 23 ls []) := by
  have hbA : ¬ (fun q => s.heap.size ≤ q) b := Nat.not_le.mpr hbl
  have head : ∀ (k : Nat), 4 * k ≤ L → ∀ (H : Heap) (locs : List Loc) (ls : Array Slot) (W0 : va_W), KI D (fun q => s.heap.size ≤ q) W0 s.heap H locs → lv_has ls 7 [(4, .int (nI (4 * k))), (0, .ref b), (1, .ref (xa 0)), (2, .ref (ma 0)), (3, .ref oa)] → (4 * k + 4 ≤ L → W p l e room_1 s m #[Value.ref b] below meth c H locs (16 + k) (3533 + 6 * k) (lw_Z below #[Value.ref b] s) (F0 m 32 ls [])) → W p l e room_1 s m #[Value.ref b] below meth c H locs (16 + k) (3533 + 6 * k) (lw_Z below #[Value.ref b] s) (F0 m 23 ls []) := by
    intro k hk H locs ls W0 hI hl kb
    refine lv_iload cx.1 cx.2.1 dL_law_23 (lv_at hl 0 rfl) ?_
    refine lv_aload_n cx.1 cx.2.1 dL_law_25 rfl (lv_at hl 1 rfl) ?_
    refine va_slen cx.1 cx.2.1 hX hbl hbA hI.2.2.1 dL_law_26 ?_
    refine lv_iconst (v := 4) cx.1 cx.2.1 dL_law_27 (by decide) ?_
    refine lv_isub cx.1 cx.2.1 dL_law_28 ?_
    refine lv_icmp_gt (tgt := 1067) cx.1 cx.2.1 dL_law_29 (by decide) (fun _ => ?_) (fun h => kb (kl_le hL hk h))
    refine lv_iconst (v := 1) cx.1 cx.2.1 dL_law_1067 (by decide) ?_
    refine va_forget (fun q hq => hI.2.2.1.2.2 q hq) ?_
    refine W.widen (k := 601024) (n := 7293034) (by omega) (by omega) ?_
    exact lw_ret cx.1 cx.2.1 hr hlk dL_law_1068
  intro n
  induction n with
  | zero =>
    intro k h1 h2 H locs ls v w f hI hS hl
    exact head k h2 H locs ls _ hI hl (fun q => absurd q (by omega))
  | succ n ih =>
    intro k h1 h2 H locs ls v w f hI hS hl
    refine head k h2 H locs ls _ hI hl (fun hi => ?_)
    refine ka_pick l cx hml hE hlS hX hbl hbA hL hi ⟨by rw [room_c]; omega, by rw [room_s]; omega⟩ hI hS hl ?_
    intro H locs ls v w f hI hS hl
    refine lv_iinc (v := nI (4 * (k + 1))) (lv' := [(4, .int (nI (4 * (k + 1)))), (0, .ref b), (1, .ref (xa 0)), (2, .ref (ma 0)), (3, .ref oa)]) cx.1 cx.2.1 dL_law_1061 hl (k := 0) rfl (nI_4 k) (by decide) rfl (fun ls hl => ?_)
    refine lv_goto (tgt := 23) cx.1 cx.2.1 dL_law_1064 (by decide) ?_
    refine W.widen (k := 16 + (k + 1)) (n := 3533 + 6 * (k + 1)) (by omega) (by omega) ?_
    exact ih (k + 1) (by omega) (by omega) H locs ls v w f hI hS hl

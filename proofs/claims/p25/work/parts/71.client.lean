/-! MINE: the law's client. -/
theorem sub0 (x : Int32) : x - 0 = x := Int32.sub_zero x
theorem zR_of {v : XS} {i : Nat} (hi : i < 40) (hA : zA v i) (h : xOld v (nI i) = true) : zR (xA v (nI i).toNatClampNeg) (xB v (nI i).toNatClampNeg) := by
  unfold xOld at h
  rw [kx hi] at h ⊢
  rcases hA with e | e
  · rw [e] at h
    exact absurd h (by decide)
  · exact Or.inr e
theorem rows_u {n c m n' : Nat} {v : XS} (h : zX zE n c m v) {i x y : Nat} (hi : i < 40) (hx : x ≤ 999) (hy : y ≤ 999) (h' : zI n' (xFollow (xPut v (nI i) (nI x) (nI y)) (nI i))) (hc : xCbw v (nI x) (nI y) = true) (hs : xSeen v (nI i) = true) : xShRows (xFollow (xPut v (nI i) (nI x) (nI y)) (nI i)) 40 = xShRows v 40 := by
  by_cases hp : xp v = 2
  · exact rows_upd h hp hi hx hy h' hc hs
  · exact rows_0 hp _ _ _ _
theorem rows_k {n c m n' : Nat} {v : XS} (h : zX zE n c m v) {i j : Nat} (hi : i < 40) (hj : j < 40) (he : ¬ nI i = nI j) (h' : zI n' (xRekey v (nI i) (nI j))) (hs : xSeen v (nI i) = true) (hs2 : xSeen v (nI j) = false) : xShRows (xRekey v (nI i) (nI j)) 40 = xShRows v 40 := by
  by_cases hp : xp v = 2
  · exact rows_k2 h hp hi hj he h' hs hs2
  · exact rows_k0 hp _ _
theorem lC_k1 {v : XS} {c : Nat} (hp : xp v = 1) (hc : c + 1 < 1024) (h : xc v = nI c) (i j : Int32) : lK (xp v) (xt v) (xq v) (xk v) (xl v) (xm v) (xc v + 2) = lC (xRekey v i j) :=
  lC_of (rek_o v i j).2.2 (rek_c1 hp hc h i j)
theorem lC_k0 {v : XS} (hp : ¬ xp v = 1) (i j : Int32) : lK (xp v) (xt v) (xq v) (xk v) (xl v) (xm v) (xc v + 0) = lC (xRekey v i j) :=
  lC_of (rek_o v i j).2.2 (rek_c0 hp i j)
set_option maxHeartbeats 4000000 in
set_option maxRecDepth 100000 in
theorem kL_client0 (l : Launch) (D : va_G) (ca : Nat → ClassId) (ad : Nat → Nat) (oa cb : Nat) {v : XS} {n i x y : Nat} (h : zI n v) (hn : n + 2 ≤ 1000) (hi : i < 40) (hx : x ≤ 999) (hy : y ≤ 999) (hlS : l.stackTraces = false) : CG l yL_client cL_client 15 (some .boolean) { frames := 9, cells := 1, slots := 6, locals := 201 } D ca (lw ad oa cb ca v (lO v) (lC v) []) [.ref (ad 0), .int 0, .int (nI i), .int (nI x), .int (nI y), .ref oa, .ref cb] (some (.int 1)) (LW (n + 2) ad oa cb ca) 1 6 := by
  refine CG.of (by decide) (Nat.le_of_ble_eq_true rfl) ?_
  intro p e s m below meth c0 A ls cx hml hr hlk hE hI hl
  have hl : lv_has ls 15 [(0, .ref (ad 0)), (1, .int 0), (2, .int (nI i)), (3, .int (nI x)), (4, .int (nI y)), (5, .ref oa), (6, .ref cb)] := hl
  obtain ⟨c1, m1, hX⟩ := id h
  have hA : ∀ j, j < 40 → zA v j := fun j hj => (hX.1.1 j hj).1
  have hZ : ∀ j, j < 40 → zS v j := fun j hj => (hX.1.1 j hj).2
  have h0 : ¬ xc v < 0 := by rw [hX.2.1.2.1]; exact nI_pos (by have := hX.2.1.1; omega)
  have hI : KI D A (lw ad oa cb ca v (lO v) (lK (xp v) (xt v) (xq v) (xk v) (xl v) (xm v) (xc v)) []) s.heap s.heap [] := hI
  have hW : zI (n + 1) (xFollow (xPut v (nI i) (nI x) (nI y)) (nI i)) := zI_write h (by omega) hi (Or.inr ⟨x, y, hx, hy, rfl, rfl⟩)
  refine lv_aload_n cx.1 cx.2.1 dL_client_0 rfl (lv_at hl 0 rfl) ?_
  refine lv_aload cx.1 cx.2.1 dL_client_1 (lv_at hl 5 rfl) ?_
  refine lv_aload cx.1 cx.2.1 dL_client_3 (lv_at hl 6 rfl) ?_
  refine lv_iload_n cx.1 cx.2.1 dL_client_5 rfl (lv_at hl 2 rfl) ?_
  refine lc_w 4 cx (hl.1.trans hml.symm) (kL_isSeen l D ca ad oa cb v (lO v) (xp v) (xt v) (xq v) (xk v) (xl v) (xm v) (xc v) hi (hA i hi) (hZ i hi) rfl rfl) hI wk_82 wk_80 wk_81 wk_0 ⟨by decide, by decide, by decide +kernel⟩ rfl ⟨rfl, rfl⟩ ⟨Nat.le_of_ble_eq_true rfl, Nat.le_of_ble_eq_true rfl⟩ (Nat.le_of_ble_eq_true rfl) dL_client_6 ⟨Nat.le_of_ble_eq_true rfl, Nat.le_of_ble_eq_true rfl⟩ rfl (fun H locs hI => ?_)
  refine lv_istore (lv' := [(7, .int (b2i (xSeen v (nI i)))), (0, .ref (ad 0)), (1, .int 0), (2, .int (nI i)), (3, .int (nI x)), (4, .int (nI y)), (5, .ref oa), (6, .ref cb)]) cx.1 cx.2.1 dL_client_9 hl (by decide) rfl (fun ls hl => ?_)
  refine lv_aload cx.1 cx.2.1 dL_client_11 (lv_at hl 7 rfl) ?_
  refine lv_iconst (v := 0) cx.1 cx.2.1 dL_client_13 (by decide) ?_
  refine lr_c cx hI (vp_in_nI (n := 0) (by decide) (by decide)) dL_client_14 ?_
  refine k_top (y := xp v) rfl ?_
  refine lv_iconst (v := 2) cx.1 cx.2.1 dL_client_15 (by decide) ?_
  refine k_join (D := D) (A := A) 41 (lw ad oa cb ca v (lO v) (lK (xp v) (xt v) (xq v) (xk v) (xl v) (xm v) (xc v)) []) [.int (b2i (xCbw v (nI x) (nI y)))] (fun H locs hI => ?_) (fun hj41 => ?_)
  · refine lv_istore (lv' := [(8, .int (b2i (xCbw v (nI x) (nI y)))), (7, .int (b2i (xSeen v (nI i)))), (0, .ref (ad 0)), (1, .int 0), (2, .int (nI i)), (3, .int (nI x)), (4, .int (nI y)), (5, .ref oa), (6, .ref cb)]) cx.1 cx.2.1 dL_client_41 hl (by decide) rfl (fun ls hl => ?_)
    refine lv_aload_n cx.1 cx.2.1 dL_client_43 rfl (lv_at hl 2 rfl) ?_
    refine lc_i 0 cx (hl.1.trans hml.symm) (kX0_shadowRows l D ca ad v) hI wk_171 wk_168 wk_169 wk_170 ⟨rfl, by decide +kernel⟩ rfl ⟨rfl, rfl⟩ ⟨Nat.le_of_ble_eq_true rfl, Nat.le_of_ble_eq_true rfl⟩ (Nat.le_of_ble_eq_true rfl) dL_client_44 ⟨Nat.le_of_ble_eq_true rfl, Nat.le_of_ble_eq_true rfl⟩ rfl (fun H locs hI => ?_)
    refine lv_istore (lv' := [(9, .int (xShRows v 40)), (8, .int (b2i (xCbw v (nI x) (nI y)))), (7, .int (b2i (xSeen v (nI i)))), (0, .ref (ad 0)), (1, .int 0), (2, .int (nI i)), (3, .int (nI x)), (4, .int (nI y)), (5, .ref oa), (6, .ref cb)]) cx.1 cx.2.1 dL_client_47 hl (by decide) rfl (fun ls hl => ?_)
    refine lv_aload_n cx.1 cx.2.1 dL_client_49 rfl (lv_at hl 3 rfl) ?_
    refine lc_i 0 cx (hl.1.trans hml.symm) (kX0_behind l D ca ad v) hI wk_179 wk_176 wk_177 wk_178 ⟨rfl, by decide +kernel⟩ rfl ⟨rfl, rfl⟩ ⟨Nat.le_of_ble_eq_true rfl, Nat.le_of_ble_eq_true rfl⟩ (Nat.le_of_ble_eq_true rfl) dL_client_50 ⟨Nat.le_of_ble_eq_true rfl, Nat.le_of_ble_eq_true rfl⟩ rfl (fun H locs hI => ?_)
    refine lv_istore (lv' := [(10, .int (if xp v = 0 then 0 else xBehinds v 40)), (9, .int (xShRows v 40)), (8, .int (b2i (xCbw v (nI x) (nI y)))), (7, .int (b2i (xSeen v (nI i)))), (0, .ref (ad 0)), (1, .int 0), (2, .int (nI i)), (3, .int (nI x)), (4, .int (nI y)), (5, .ref oa), (6, .ref cb)]) cx.1 cx.2.1 dL_client_53 hl (by decide) rfl (fun ls hl => ?_)
    refine lv_iload_n cx.1 cx.2.1 dL_client_55 rfl (lv_at hl 5 rfl) ?_
    refine lv_iconst (v := 2) cx.1 cx.2.1 dL_client_56 (by decide) ?_
    refine lv_icmp_ne (tgt := 199) cx.1 cx.2.1 dL_client_57 (by decide) (fun _ => ?_) (fun h9 => absurd h9 (by decide))
    refine lv_iload_n cx.1 cx.2.1 dL_client_199 rfl (lv_at hl 5 rfl) ?_
    refine lv_iconst (v := 3) cx.1 cx.2.1 dL_client_200 (by decide) ?_
    refine lv_icmp_ne (tgt := 312) cx.1 cx.2.1 dL_client_201 (by decide) (fun _ => ?_) (fun h9 => absurd h9 (by decide))
    refine lv_iload cx.1 cx.2.1 dL_client_312 (lv_at hl 2 rfl) ?_
    refine kb_ne (tgt := 322) cx dL_client_314 (by decide) (fun c_1 => ?_) (fun c_1 => ?_)
    · refine lv_iload_n cx.1 cx.2.1 dL_client_322 rfl (lv_at hl 5 rfl) ?_
      refine lv_if_ne (tgt := 340) cx.1 cx.2.1 dL_client_323 (by decide) (fun h9 => absurd (by decide) h9) (fun _ => ?_)
      refine lv_iload cx.1 cx.2.1 dL_client_326 (lv_at hl 3 rfl) ?_
      refine kb_eq (tgt := 336) cx dL_client_328 (by decide) (fun c_2 => ?_) (fun c_2 => ?_)
      · refine lv_iconst (v := 0) cx.1 cx.2.1 dL_client_336 (by decide) ?_
        refine lv_goto (tgt := 351) cx.1 cx.2.1 dL_client_337 (by decide) ?_
        refine lv_istore (lv' := [(11, .int 0), (10, .int (if xp v = 0 then 0 else xBehinds v 40)), (9, .int (xShRows v 40)), (8, .int (b2i (xCbw v (nI x) (nI y)))), (7, .int (b2i (xSeen v (nI i)))), (0, .ref (ad 0)), (1, .int 0), (2, .int (nI i)), (3, .int (nI x)), (4, .int (nI y)), (5, .ref oa), (6, .ref cb)]) cx.1 cx.2.1 dL_client_351 hl (by decide) rfl (fun ls hl => ?_)
        refine lv_aload_n cx.1 cx.2.1 dL_client_353 rfl (lv_at hl 5 rfl) ?_
        refine lv_iload_n cx.1 cx.2.1 dL_client_354 rfl (lv_at hl 6 rfl) ?_
        refine lv_iload_n cx.1 cx.2.1 dL_client_355 rfl (lv_at hl 7 rfl) ?_
        refine lv_iload_n cx.1 cx.2.1 dL_client_356 rfl (lv_at hl 8 rfl) ?_
        refine lv_iload cx.1 cx.2.1 dL_client_357 (lv_at hl 9 rfl) ?_
        refine lc_h 5 cx hE (hl.1.trans hml.symm) (CA.ok (kL_asks0 l D ca ad v (nI i) (nI x) (nI y) h0 (fins_n hi) hlS) (fins_0 hi c_1 c_2)) hI wk_213 wk_211 wk_212 wk_0 ⟨by decide, by decide, by decide +kernel⟩ rfl ⟨rfl, rfl⟩ ⟨Nat.le_of_ble_eq_true rfl, Nat.le_of_ble_eq_true rfl⟩ (Nat.le_of_ble_eq_true rfl) dL_client_359 ⟨Nat.le_of_ble_eq_true rfl, Nat.le_of_ble_eq_true rfl⟩ rfl (fun H locs hI => ?_)
        refine lv_istore (lv' := [(12, .int 0), (11, .int 0), (10, .int (if xp v = 0 then 0 else xBehinds v 40)), (9, .int (xShRows v 40)), (8, .int (b2i (xCbw v (nI x) (nI y)))), (7, .int (b2i (xSeen v (nI i)))), (0, .ref (ad 0)), (1, .int 0), (2, .int (nI i)), (3, .int (nI x)), (4, .int (nI y)), (5, .ref oa), (6, .ref cb)]) cx.1 cx.2.1 dL_client_362 hl (by decide) rfl (fun ls hl => ?_)
        refine lv_aload cx.1 cx.2.1 dL_client_364 (lv_at hl 11 rfl) ?_
        refine lv_iload_n cx.1 cx.2.1 dL_client_366 rfl (lv_at hl 8 rfl) ?_
        refine lv_iload cx.1 cx.2.1 dL_client_367 (lv_at hl 1 rfl) ?_
        refine lv_if_ne (tgt := 383) cx.1 cx.2.1 dL_client_369 (by decide) (fun h9 => absurd (by decide) h9) (fun _ => ?_)
        refine lv_sipush (v := 1000) cx.1 cx.2.1 dL_client_372 (by decide) ?_
        refine lv_iload_n cx.1 cx.2.1 dL_client_375 rfl (lv_at hl 9 rfl) ?_
        refine lv_imul cx.1 cx.2.1 dL_client_376 ?_
        refine lv_iload cx.1 cx.2.1 dL_client_377 (lv_at hl 10 rfl) ?_
        refine lv_iadd cx.1 cx.2.1 dL_client_379 ?_
        refine k_top (y := nI (1000 * x + y)) (row_n x y) ?_
        refine lv_goto (tgt := 387) cx.1 cx.2.1 dL_client_380 (by decide) ?_
        refine ls_on cx hI hi dL_client_387 (fun H locs hI => ?_)
        refine lv_aload cx.1 cx.2.1 dL_client_388 (lv_at hl 12 rfl) ?_
        refine lv_bipush (v := 6) cx.1 cx.2.1 dL_client_390 (by decide) ?_
        refine lv_dup2_11 cx.1 cx.2.1 dL_client_392 rfl rfl ?_
        refine lr_c cx hI (vp_in_nI (n := 6) (by decide) (by decide)) dL_client_393 ?_
        refine k_top (y := xc v) rfl ?_
        refine lv_iload cx.1 cx.2.1 dL_client_394 (lv_at hl 1 rfl) ?_
        refine lv_if_ne (tgt := 411) cx.1 cx.2.1 dL_client_396 (by decide) (fun h9 => absurd (by decide) h9) (fun _ => ?_)
        refine lv_aload cx.1 cx.2.1 dL_client_399 (lv_at hl 12 rfl) ?_
        refine lv_iconst (v := 0) cx.1 cx.2.1 dL_client_401 (by decide) ?_
        refine lr_c cx hI (vp_in_nI (n := 0) (by decide) (by decide)) dL_client_402 ?_
        refine k_top (y := xp v) rfl ?_
        refine lv_iconst (v := 1) cx.1 cx.2.1 dL_client_403 (by decide) ?_
        refine lv_icmp_ne (tgt := 411) cx.1 cx.2.1 dL_client_404 (by decide) (fun c_3 => ?_) (fun c_3 => ?_)
        · refine lv_iconst (v := 0) cx.1 cx.2.1 dL_client_411 (by decide) ?_
          refine lv_iadd cx.1 cx.2.1 dL_client_412 ?_
          refine ls_c6 cx hI dL_client_413 (fun H locs hI => ?_)
          refine lv_iload cx.1 cx.2.1 dL_client_414 (lv_at hl 0 rfl) ?_
          refine lv_iload cx.1 cx.2.1 dL_client_416 (lv_at hl 1 rfl) ?_
          refine lv_icmp_ne (tgt := 457) cx.1 cx.2.1 dL_client_418 (by decide) (fun h9 => absurd (by decide) h9) (fun _ => ?_)
          refine lv_aload_n cx.1 cx.2.1 dL_client_421 rfl (lv_at hl 6 rfl) ?_
          refine lc_i 0 cx (hl.1.trans hml.symm) (kX0_shadowRows l D ca ad (xFollow (xPut v (nI i) (nI x) (nI y)) (nI i))) hI wk_171 wk_168 wk_169 wk_170 ⟨rfl, by decide +kernel⟩ rfl ⟨rfl, rfl⟩ ⟨Nat.le_of_ble_eq_true rfl, Nat.le_of_ble_eq_true rfl⟩ (Nat.le_of_ble_eq_true rfl) dL_client_422 ⟨Nat.le_of_ble_eq_true rfl, Nat.le_of_ble_eq_true rfl⟩ rfl (fun H locs hI => ?_)
          refine lv_iload cx.1 cx.2.1 dL_client_425 (lv_at hl 3 rfl) ?_
          refine lv_iload cx.1 cx.2.1 dL_client_427 (lv_at hl 1 rfl) ?_
          refine lv_if_ne (tgt := 448) cx.1 cx.2.1 dL_client_429 (by decide) (fun h9 => absurd (by decide) h9) (fun _ => ?_)
          refine lv_iload_n cx.1 cx.2.1 dL_client_432 rfl (lv_at hl 7 rfl) ?_
          refine lv_if_ne (tgt := 448) cx.1 cx.2.1 dL_client_433 (by decide) (fun h9 => absurd (by decide) h9) (fun _ => ?_)
          refine lv_aload cx.1 cx.2.1 dL_client_436 (lv_at hl 12 rfl) ?_
          refine lv_iconst (v := 0) cx.1 cx.2.1 dL_client_438 (by decide) ?_
          refine lr_c cx hI (vp_in_nI (n := 0) (by decide) (by decide)) dL_client_439 ?_
          refine k_top (y := xp v) rfl ?_
          refine lv_iconst (v := 2) cx.1 cx.2.1 dL_client_440 (by decide) ?_
          refine lv_icmp_ne (tgt := 448) cx.1 cx.2.1 dL_client_441 (by decide) (fun c_4 => ?_) (fun c_4 => ?_)
          · refine lv_iconst (v := 0) cx.1 cx.2.1 dL_client_448 (by decide) ?_
            refine lv_iadd cx.1 cx.2.1 dL_client_449 ?_
            refine lv_icmp_ne (tgt := 457) cx.1 cx.2.1 dL_client_450 (by decide) (fun h9 => absurd ((rows_0 c_4 _ _ _ _).trans (add0 _).symm) h9) (fun _ => ?_)
            refine lv_iconst (v := 1) cx.1 cx.2.1 dL_client_453 (by decide) ?_
            refine lv_goto (tgt := 458) cx.1 cx.2.1 dL_client_454 (by decide) ?_
            exact ke_g (lw ad oa cb ca (xFollow (xPut v (nI i) (nI x) (nI y)) (nI i)) (upd (lO v) i (nI (1000 * x + y))) (lK (xp v) (xt v) (xq v) (xk v) (xl v) (xm v) ((xc v) + 0)) []) [] cx hr hlk hI (Nat.le_of_ble_eq_true rfl) (Nat.le_of_ble_eq_true rfl) dL_client_458 rfl rfl ⟨_, hW.up (by omega), lw_eq (lO_w hi hx _) (lC_w0 c_3 _ _ _ _)⟩
          · refine lv_iconst (v := 1) cx.1 cx.2.1 dL_client_444 (by decide) ?_
            refine lv_goto (tgt := 449) cx.1 cx.2.1 dL_client_445 (by decide) ?_
            refine lv_iadd cx.1 cx.2.1 dL_client_449 ?_
            refine lv_icmp_ne (tgt := 457) cx.1 cx.2.1 dL_client_450 (by decide) (fun h9 => absurd (rows_ins hX c_4 hi hx hy hW c_1 c_2) h9) (fun _ => ?_)
            refine lv_iconst (v := 1) cx.1 cx.2.1 dL_client_453 (by decide) ?_
            refine lv_goto (tgt := 458) cx.1 cx.2.1 dL_client_454 (by decide) ?_
            exact ke_g (lw ad oa cb ca (xFollow (xPut v (nI i) (nI x) (nI y)) (nI i)) (upd (lO v) i (nI (1000 * x + y))) (lK (xp v) (xt v) (xq v) (xk v) (xl v) (xm v) ((xc v) + 0)) []) [] cx hr hlk hI (Nat.le_of_ble_eq_true rfl) (Nat.le_of_ble_eq_true rfl) dL_client_458 rfl rfl ⟨_, hW.up (by omega), lw_eq (lO_w hi hx _) (lC_w0 c_3 _ _ _ _)⟩
        · refine lv_iconst (v := 1) cx.1 cx.2.1 dL_client_407 (by decide) ?_
          refine lv_goto (tgt := 412) cx.1 cx.2.1 dL_client_408 (by decide) ?_
          refine lv_iadd cx.1 cx.2.1 dL_client_412 ?_
          refine ls_c6 cx hI dL_client_413 (fun H locs hI => ?_)
          refine lv_iload cx.1 cx.2.1 dL_client_414 (lv_at hl 0 rfl) ?_
          refine lv_iload cx.1 cx.2.1 dL_client_416 (lv_at hl 1 rfl) ?_
          refine lv_icmp_ne (tgt := 457) cx.1 cx.2.1 dL_client_418 (by decide) (fun h9 => absurd (by decide) h9) (fun _ => ?_)
          refine lv_aload_n cx.1 cx.2.1 dL_client_421 rfl (lv_at hl 6 rfl) ?_
          refine lc_i 0 cx (hl.1.trans hml.symm) (kX0_shadowRows l D ca ad (xFollow (xPut v (nI i) (nI x) (nI y)) (nI i))) hI wk_171 wk_168 wk_169 wk_170 ⟨rfl, by decide +kernel⟩ rfl ⟨rfl, rfl⟩ ⟨Nat.le_of_ble_eq_true rfl, Nat.le_of_ble_eq_true rfl⟩ (Nat.le_of_ble_eq_true rfl) dL_client_422 ⟨Nat.le_of_ble_eq_true rfl, Nat.le_of_ble_eq_true rfl⟩ rfl (fun H locs hI => ?_)
          refine lv_iload cx.1 cx.2.1 dL_client_425 (lv_at hl 3 rfl) ?_
          refine lv_iload cx.1 cx.2.1 dL_client_427 (lv_at hl 1 rfl) ?_
          refine lv_if_ne (tgt := 448) cx.1 cx.2.1 dL_client_429 (by decide) (fun h9 => absurd (by decide) h9) (fun _ => ?_)
          refine lv_iload_n cx.1 cx.2.1 dL_client_432 rfl (lv_at hl 7 rfl) ?_
          refine lv_if_ne (tgt := 448) cx.1 cx.2.1 dL_client_433 (by decide) (fun h9 => absurd (by decide) h9) (fun _ => ?_)
          refine lv_aload cx.1 cx.2.1 dL_client_436 (lv_at hl 12 rfl) ?_
          refine lv_iconst (v := 0) cx.1 cx.2.1 dL_client_438 (by decide) ?_
          refine lr_c cx hI (vp_in_nI (n := 0) (by decide) (by decide)) dL_client_439 ?_
          refine k_top (y := xp v) rfl ?_
          refine lv_iconst (v := 2) cx.1 cx.2.1 dL_client_440 (by decide) ?_
          refine lv_icmp_ne (tgt := 448) cx.1 cx.2.1 dL_client_441 (by decide) (fun _ => ?_) (fun h9 => absurd h9 (by rw [c_3]; decide))
          refine lv_iconst (v := 0) cx.1 cx.2.1 dL_client_448 (by decide) ?_
          refine lv_iadd cx.1 cx.2.1 dL_client_449 ?_
          refine lv_icmp_ne (tgt := 457) cx.1 cx.2.1 dL_client_450 (by decide) (fun h9 => absurd ((rows_0 (by rw [c_3]; decide) _ _ _ _).trans (add0 _).symm) h9) (fun _ => ?_)
          refine lv_iconst (v := 1) cx.1 cx.2.1 dL_client_453 (by decide) ?_
          refine lv_goto (tgt := 458) cx.1 cx.2.1 dL_client_454 (by decide) ?_
          exact ke_g (lw ad oa cb ca (xFollow (xPut v (nI i) (nI x) (nI y)) (nI i)) (upd (lO v) i (nI (1000 * x + y))) (lK (xp v) (xt v) (xq v) (xk v) (xl v) (xm v) ((xc v) + 1)) []) [] cx hr hlk hI (Nat.le_of_ble_eq_true rfl) (Nat.le_of_ble_eq_true rfl) dL_client_458 rfl rfl ⟨_, hW.up (by omega), lw_eq (lO_w hi hx _) (lC_w1 c_3 (by have := hX.2.1.1; omega) hX.2.1.2.1 _ _ _ _)⟩
      · refine lv_bipush (v := (-8)) cx.1 cx.2.1 dL_client_331 (by decide) ?_
        refine lv_goto (tgt := 351) cx.1 cx.2.1 dL_client_333 (by decide) ?_
        refine lv_istore (lv' := [(11, .int (-8)), (10, .int (if xp v = 0 then 0 else xBehinds v 40)), (9, .int (xShRows v 40)), (8, .int (b2i (xCbw v (nI x) (nI y)))), (7, .int (b2i (xSeen v (nI i)))), (0, .ref (ad 0)), (1, .int 0), (2, .int (nI i)), (3, .int (nI x)), (4, .int (nI y)), (5, .ref oa), (6, .ref cb)]) cx.1 cx.2.1 dL_client_351 hl (by decide) rfl (fun ls hl => ?_)
        refine lv_aload_n cx.1 cx.2.1 dL_client_353 rfl (lv_at hl 5 rfl) ?_
        refine lv_iload_n cx.1 cx.2.1 dL_client_354 rfl (lv_at hl 6 rfl) ?_
        refine lv_iload_n cx.1 cx.2.1 dL_client_355 rfl (lv_at hl 7 rfl) ?_
        refine lv_iload_n cx.1 cx.2.1 dL_client_356 rfl (lv_at hl 8 rfl) ?_
        refine lv_iload cx.1 cx.2.1 dL_client_357 (lv_at hl 9 rfl) ?_
        refine lc_h 5 cx hE (hl.1.trans hml.symm) (CA.f3 (kL_asks0 l D ca ad v (nI i) (nI x) (nI y) h0 (fins_n hi) hlS) (fins_3 hi c_1 c_2)) hI wk_213 wk_211 wk_212 wk_0 ⟨by decide, by decide, by decide +kernel⟩ rfl ⟨rfl, rfl⟩ ⟨Nat.le_of_ble_eq_true rfl, Nat.le_of_ble_eq_true rfl⟩ (Nat.le_of_ble_eq_true rfl) dL_client_359 ⟨Nat.le_of_ble_eq_true rfl, Nat.le_of_ble_eq_true rfl⟩ rfl (fun H locs hI => ?_)
        refine lv_istore (lv' := [(12, .int (-8)), (11, .int (-8)), (10, .int (if xp v = 0 then 0 else xBehinds v 40)), (9, .int (xShRows v 40)), (8, .int (b2i (xCbw v (nI x) (nI y)))), (7, .int (b2i (xSeen v (nI i)))), (0, .ref (ad 0)), (1, .int 0), (2, .int (nI i)), (3, .int (nI x)), (4, .int (nI y)), (5, .ref oa), (6, .ref cb)]) cx.1 cx.2.1 dL_client_362 hl (by decide) rfl (fun ls hl => ?_)
        refine lv_aload cx.1 cx.2.1 dL_client_364 (lv_at hl 11 rfl) ?_
        refine lv_iload_n cx.1 cx.2.1 dL_client_366 rfl (lv_at hl 8 rfl) ?_
        refine lv_iload cx.1 cx.2.1 dL_client_367 (lv_at hl 1 rfl) ?_
        refine lv_if_ne (tgt := 383) cx.1 cx.2.1 dL_client_369 (by decide) (fun _ => ?_) (fun h9 => absurd h9 (by decide))
        refine lv_aload cx.1 cx.2.1 dL_client_383 (lv_at hl 11 rfl) ?_
        refine lv_iload_n cx.1 cx.2.1 dL_client_385 rfl (lv_at hl 8 rfl) ?_
        refine lr_on cx hI hi dL_client_386 ?_
        refine ls_on cx hI hi dL_client_387 (fun H locs hI => ?_)
        refine lv_aload cx.1 cx.2.1 dL_client_388 (lv_at hl 12 rfl) ?_
        refine lv_bipush (v := 6) cx.1 cx.2.1 dL_client_390 (by decide) ?_
        refine lv_dup2_11 cx.1 cx.2.1 dL_client_392 rfl rfl ?_
        refine lr_c cx hI (vp_in_nI (n := 6) (by decide) (by decide)) dL_client_393 ?_
        refine k_top (y := xc v) rfl ?_
        refine lv_iload cx.1 cx.2.1 dL_client_394 (lv_at hl 1 rfl) ?_
        refine lv_if_ne (tgt := 411) cx.1 cx.2.1 dL_client_396 (by decide) (fun _ => ?_) (fun h9 => absurd h9 (by decide))
        refine lv_iconst (v := 0) cx.1 cx.2.1 dL_client_411 (by decide) ?_
        refine lv_iadd cx.1 cx.2.1 dL_client_412 ?_
        refine ls_c6 cx hI dL_client_413 (fun H locs hI => ?_)
        refine lv_iload cx.1 cx.2.1 dL_client_414 (lv_at hl 0 rfl) ?_
        refine lv_iload cx.1 cx.2.1 dL_client_416 (lv_at hl 1 rfl) ?_
        refine lv_icmp_ne (tgt := 457) cx.1 cx.2.1 dL_client_418 (by decide) (fun h9 => absurd (by decide) h9) (fun _ => ?_)
        refine lv_aload_n cx.1 cx.2.1 dL_client_421 rfl (lv_at hl 6 rfl) ?_
        refine lc_i 0 cx (hl.1.trans hml.symm) (kX0_shadowRows l D ca ad v) hI wk_171 wk_168 wk_169 wk_170 ⟨rfl, by decide +kernel⟩ rfl ⟨rfl, rfl⟩ ⟨Nat.le_of_ble_eq_true rfl, Nat.le_of_ble_eq_true rfl⟩ (Nat.le_of_ble_eq_true rfl) dL_client_422 ⟨Nat.le_of_ble_eq_true rfl, Nat.le_of_ble_eq_true rfl⟩ rfl (fun H locs hI => ?_)
        refine lv_iload cx.1 cx.2.1 dL_client_425 (lv_at hl 3 rfl) ?_
        refine lv_iload cx.1 cx.2.1 dL_client_427 (lv_at hl 1 rfl) ?_
        refine lv_if_ne (tgt := 448) cx.1 cx.2.1 dL_client_429 (by decide) (fun _ => ?_) (fun h9 => absurd h9 (by decide))
        refine lv_iconst (v := 0) cx.1 cx.2.1 dL_client_448 (by decide) ?_
        refine lv_iadd cx.1 cx.2.1 dL_client_449 ?_
        refine lv_icmp_ne (tgt := 457) cx.1 cx.2.1 dL_client_450 (by decide) (fun h9 => absurd (add0 _).symm h9) (fun _ => ?_)
        refine lv_iconst (v := 1) cx.1 cx.2.1 dL_client_453 (by decide) ?_
        refine lv_goto (tgt := 458) cx.1 cx.2.1 dL_client_454 (by decide) ?_
        exact ke_g (lw ad oa cb ca v (upd (lO v) i ((lO v) i)) (lK (xp v) (xt v) (xq v) (xk v) (xl v) (xm v) ((xc v) + 0)) []) [] cx hr hlk hI (Nat.le_of_ble_eq_true rfl) (Nat.le_of_ble_eq_true rfl) dL_client_458 rfl rfl ⟨v, (h.up (by omega)), lw_eq (lO_self _ _) (lC_0 v)⟩
    · refine lv_bipush (v := (-9)) cx.1 cx.2.1 dL_client_317 (by decide) ?_
      refine lv_goto (tgt := 351) cx.1 cx.2.1 dL_client_319 (by decide) ?_
      refine lv_istore (lv' := [(11, .int (-9)), (10, .int (if xp v = 0 then 0 else xBehinds v 40)), (9, .int (xShRows v 40)), (8, .int (b2i (xCbw v (nI x) (nI y)))), (7, .int (b2i (xSeen v (nI i)))), (0, .ref (ad 0)), (1, .int 0), (2, .int (nI i)), (3, .int (nI x)), (4, .int (nI y)), (5, .ref oa), (6, .ref cb)]) cx.1 cx.2.1 dL_client_351 hl (by decide) rfl (fun ls hl => ?_)
      refine lv_aload_n cx.1 cx.2.1 dL_client_353 rfl (lv_at hl 5 rfl) ?_
      refine lv_iload_n cx.1 cx.2.1 dL_client_354 rfl (lv_at hl 6 rfl) ?_
      refine lv_iload_n cx.1 cx.2.1 dL_client_355 rfl (lv_at hl 7 rfl) ?_
      refine lv_iload_n cx.1 cx.2.1 dL_client_356 rfl (lv_at hl 8 rfl) ?_
      refine lv_iload cx.1 cx.2.1 dL_client_357 (lv_at hl 9 rfl) ?_
      refine lc_h 5 cx hE (hl.1.trans hml.symm) (CA.f2 (kL_asks0 l D ca ad v (nI i) (nI x) (nI y) h0 (fins_n hi) hlS) (fins_2 hi c_1)) hI wk_213 wk_211 wk_212 wk_0 ⟨by decide, by decide, by decide +kernel⟩ rfl ⟨rfl, rfl⟩ ⟨Nat.le_of_ble_eq_true rfl, Nat.le_of_ble_eq_true rfl⟩ (Nat.le_of_ble_eq_true rfl) dL_client_359 ⟨Nat.le_of_ble_eq_true rfl, Nat.le_of_ble_eq_true rfl⟩ rfl (fun H locs hI => ?_)
      refine lv_istore (lv' := [(12, .int (-9)), (11, .int (-9)), (10, .int (if xp v = 0 then 0 else xBehinds v 40)), (9, .int (xShRows v 40)), (8, .int (b2i (xCbw v (nI x) (nI y)))), (7, .int (b2i (xSeen v (nI i)))), (0, .ref (ad 0)), (1, .int 0), (2, .int (nI i)), (3, .int (nI x)), (4, .int (nI y)), (5, .ref oa), (6, .ref cb)]) cx.1 cx.2.1 dL_client_362 hl (by decide) rfl (fun ls hl => ?_)
      refine lv_aload cx.1 cx.2.1 dL_client_364 (lv_at hl 11 rfl) ?_
      refine lv_iload_n cx.1 cx.2.1 dL_client_366 rfl (lv_at hl 8 rfl) ?_
      refine lv_iload cx.1 cx.2.1 dL_client_367 (lv_at hl 1 rfl) ?_
      refine lv_if_ne (tgt := 383) cx.1 cx.2.1 dL_client_369 (by decide) (fun _ => ?_) (fun h9 => absurd h9 (by decide))
      refine lv_aload cx.1 cx.2.1 dL_client_383 (lv_at hl 11 rfl) ?_
      refine lv_iload_n cx.1 cx.2.1 dL_client_385 rfl (lv_at hl 8 rfl) ?_
      refine lr_on cx hI hi dL_client_386 ?_
      refine ls_on cx hI hi dL_client_387 (fun H locs hI => ?_)
      refine lv_aload cx.1 cx.2.1 dL_client_388 (lv_at hl 12 rfl) ?_
      refine lv_bipush (v := 6) cx.1 cx.2.1 dL_client_390 (by decide) ?_
      refine lv_dup2_11 cx.1 cx.2.1 dL_client_392 rfl rfl ?_
      refine lr_c cx hI (vp_in_nI (n := 6) (by decide) (by decide)) dL_client_393 ?_
      refine k_top (y := xc v) rfl ?_
      refine lv_iload cx.1 cx.2.1 dL_client_394 (lv_at hl 1 rfl) ?_
      refine lv_if_ne (tgt := 411) cx.1 cx.2.1 dL_client_396 (by decide) (fun _ => ?_) (fun h9 => absurd h9 (by decide))
      refine lv_iconst (v := 0) cx.1 cx.2.1 dL_client_411 (by decide) ?_
      refine lv_iadd cx.1 cx.2.1 dL_client_412 ?_
      refine ls_c6 cx hI dL_client_413 (fun H locs hI => ?_)
      refine lv_iload cx.1 cx.2.1 dL_client_414 (lv_at hl 0 rfl) ?_
      refine lv_iload cx.1 cx.2.1 dL_client_416 (lv_at hl 1 rfl) ?_
      refine lv_icmp_ne (tgt := 457) cx.1 cx.2.1 dL_client_418 (by decide) (fun h9 => absurd (by decide) h9) (fun _ => ?_)
      refine lv_aload_n cx.1 cx.2.1 dL_client_421 rfl (lv_at hl 6 rfl) ?_
      refine lc_i 0 cx (hl.1.trans hml.symm) (kX0_shadowRows l D ca ad v) hI wk_171 wk_168 wk_169 wk_170 ⟨rfl, by decide +kernel⟩ rfl ⟨rfl, rfl⟩ ⟨Nat.le_of_ble_eq_true rfl, Nat.le_of_ble_eq_true rfl⟩ (Nat.le_of_ble_eq_true rfl) dL_client_422 ⟨Nat.le_of_ble_eq_true rfl, Nat.le_of_ble_eq_true rfl⟩ rfl (fun H locs hI => ?_)
      refine lv_iload cx.1 cx.2.1 dL_client_425 (lv_at hl 3 rfl) ?_
      refine lv_iload cx.1 cx.2.1 dL_client_427 (lv_at hl 1 rfl) ?_
      refine lv_if_ne (tgt := 448) cx.1 cx.2.1 dL_client_429 (by decide) (fun _ => ?_) (fun h9 => absurd h9 (by decide))
      refine lv_iconst (v := 0) cx.1 cx.2.1 dL_client_448 (by decide) ?_
      refine lv_iadd cx.1 cx.2.1 dL_client_449 ?_
      refine lv_icmp_ne (tgt := 457) cx.1 cx.2.1 dL_client_450 (by decide) (fun h9 => absurd (add0 _).symm h9) (fun _ => ?_)
      refine lv_iconst (v := 1) cx.1 cx.2.1 dL_client_453 (by decide) ?_
      refine lv_goto (tgt := 458) cx.1 cx.2.1 dL_client_454 (by decide) ?_
      exact ke_g (lw ad oa cb ca v (upd (lO v) i ((lO v) i)) (lK (xp v) (xt v) (xq v) (xk v) (xl v) (xm v) ((xc v) + 0)) []) [] cx hr hlk hI (Nat.le_of_ble_eq_true rfl) (Nat.le_of_ble_eq_true rfl) dL_client_458 rfl rfl ⟨v, (h.up (by omega)), lw_eq (lO_self _ _) (lC_0 v)⟩
  ·
    refine lv_icmp_ne (tgt := 36) cx.1 cx.2.1 dL_client_16 (by decide) (fun c_5 => ?_) (fun c_5 => ?_)
    · refine lv_iconst (v := 1) cx.1 cx.2.1 dL_client_36 (by decide) ?_
      refine lv_goto (tgt := 41) cx.1 cx.2.1 dL_client_37 (by decide) ?_
      exact k_top (by first | exact cbw_t hx hy c_5 | exact cbw_p hx hy c_5) (hj41 _ _ hI)
    · refine lv_aload cx.1 cx.2.1 dL_client_19 (lv_at hl 7 rfl) ?_
      refine lv_sipush (v := 1000) cx.1 cx.2.1 dL_client_21 (by decide) ?_
      refine lv_iload_n cx.1 cx.2.1 dL_client_24 rfl (lv_at hl 4 rfl) ?_
      refine lv_imul cx.1 cx.2.1 dL_client_25 ?_
      refine lv_iload cx.1 cx.2.1 dL_client_26 (lv_at hl 5 rfl) ?_
      refine lv_iadd cx.1 cx.2.1 dL_client_28 ?_
      refine k_top (y := nI (1000 * x + y)) (row_n x y) ?_
      refine lv_iconst (v := 0) cx.1 cx.2.1 dL_client_29 (by decide) ?_
      refine lc_c 3 cx (hl.1.trans hml.symm) (kL_altered l D ca cb (lK (xp v) (xt v) (xq v) (xk v) (xl v) (xm v) (xc v)) (nI (1000 * x + y)) 0) hI wk_167 wk_165 wk_166 wk_0 ⟨by decide, by decide, by decide +kernel⟩ rfl ⟨rfl, rfl⟩ ⟨Nat.le_of_ble_eq_true rfl, Nat.le_of_ble_eq_true rfl⟩ (Nat.le_of_ble_eq_true rfl) dL_client_30 ⟨Nat.le_of_ble_eq_true rfl, Nat.le_of_ble_eq_true rfl⟩ rfl (fun H locs hI => ?_)
      refine lv_if_lt (tgt := 40) cx.1 cx.2.1 dL_client_33 (by decide) (fun c_6 => ?_) (fun c_6 => ?_)
      · refine lv_iconst (v := 0) cx.1 cx.2.1 dL_client_40 (by decide) ?_
        exact k_top (cbw_n hx hy hX.1.2.1 c_5 c_6) (hj41 _ _ hI)
      · refine lv_iconst (v := 1) cx.1 cx.2.1 dL_client_36 (by decide) ?_
        refine lv_goto (tgt := 41) cx.1 cx.2.1 dL_client_37 (by decide) ?_
        exact k_top (by first | exact cbw_t hx hy c_6 | exact cbw_p hx hy c_6) (hj41 _ _ hI)
set_option maxHeartbeats 4000000 in
set_option maxRecDepth 100000 in
theorem kL_client1 (l : Launch) (D : va_G) (ca : Nat → ClassId) (ad : Nat → Nat) (oa cb : Nat) {v : XS} {n i x y : Nat} (h : zI n v) (hn : n + 2 ≤ 1000) (hi : i < 40) (hx : x ≤ 999) (hy : y ≤ 999) (hlS : l.stackTraces = false) : CG l yL_client cL_client 15 (some .boolean) { frames := 9, cells := 1, slots := 6, locals := 201 } D ca (lw ad oa cb ca v (lO v) (lC v) []) [.ref (ad 0), .int 1, .int (nI i), .int (nI x), .int (nI y), .ref oa, .ref cb] (some (.int 1)) (LW (n + 2) ad oa cb ca) 1 6 := by
  refine CG.of (by decide) (Nat.le_of_ble_eq_true rfl) ?_
  intro p e s m below meth c0 A ls cx hml hr hlk hE hI hl
  have hl : lv_has ls 15 [(0, .ref (ad 0)), (1, .int 1), (2, .int (nI i)), (3, .int (nI x)), (4, .int (nI y)), (5, .ref oa), (6, .ref cb)] := hl
  obtain ⟨c1, m1, hX⟩ := id h
  have hA : ∀ j, j < 40 → zA v j := fun j hj => (hX.1.1 j hj).1
  have hZ : ∀ j, j < 40 → zS v j := fun j hj => (hX.1.1 j hj).2
  have h0 : ¬ xc v < 0 := by rw [hX.2.1.2.1]; exact nI_pos (by have := hX.2.1.1; omega)
  have hI : KI D A (lw ad oa cb ca v (lO v) (lK (xp v) (xt v) (xq v) (xk v) (xl v) (xm v) (xc v)) []) s.heap s.heap [] := hI
  have hW : zI (n + 1) (xFollow (xPut v (nI i) (nI x) (nI y)) (nI i)) := zI_write h (by omega) hi (Or.inr ⟨x, y, hx, hy, rfl, rfl⟩)
  refine lv_aload_n cx.1 cx.2.1 dL_client_0 rfl (lv_at hl 0 rfl) ?_
  refine lv_aload cx.1 cx.2.1 dL_client_1 (lv_at hl 5 rfl) ?_
  refine lv_aload cx.1 cx.2.1 dL_client_3 (lv_at hl 6 rfl) ?_
  refine lv_iload_n cx.1 cx.2.1 dL_client_5 rfl (lv_at hl 2 rfl) ?_
  refine lc_w 4 cx (hl.1.trans hml.symm) (kL_isSeen l D ca ad oa cb v (lO v) (xp v) (xt v) (xq v) (xk v) (xl v) (xm v) (xc v) hi (hA i hi) (hZ i hi) rfl rfl) hI wk_82 wk_80 wk_81 wk_0 ⟨by decide, by decide, by decide +kernel⟩ rfl ⟨rfl, rfl⟩ ⟨Nat.le_of_ble_eq_true rfl, Nat.le_of_ble_eq_true rfl⟩ (Nat.le_of_ble_eq_true rfl) dL_client_6 ⟨Nat.le_of_ble_eq_true rfl, Nat.le_of_ble_eq_true rfl⟩ rfl (fun H locs hI => ?_)
  refine lv_istore (lv' := [(7, .int (b2i (xSeen v (nI i)))), (0, .ref (ad 0)), (1, .int 1), (2, .int (nI i)), (3, .int (nI x)), (4, .int (nI y)), (5, .ref oa), (6, .ref cb)]) cx.1 cx.2.1 dL_client_9 hl (by decide) rfl (fun ls hl => ?_)
  refine lv_aload cx.1 cx.2.1 dL_client_11 (lv_at hl 7 rfl) ?_
  refine lv_iconst (v := 0) cx.1 cx.2.1 dL_client_13 (by decide) ?_
  refine lr_c cx hI (vp_in_nI (n := 0) (by decide) (by decide)) dL_client_14 ?_
  refine k_top (y := xp v) rfl ?_
  refine lv_iconst (v := 2) cx.1 cx.2.1 dL_client_15 (by decide) ?_
  refine k_join (D := D) (A := A) 41 (lw ad oa cb ca v (lO v) (lK (xp v) (xt v) (xq v) (xk v) (xl v) (xm v) (xc v)) []) [.int (b2i (xCbw v (nI x) (nI y)))] (fun H locs hI => ?_) (fun hj41 => ?_)
  · refine lv_istore (lv' := [(8, .int (b2i (xCbw v (nI x) (nI y)))), (7, .int (b2i (xSeen v (nI i)))), (0, .ref (ad 0)), (1, .int 1), (2, .int (nI i)), (3, .int (nI x)), (4, .int (nI y)), (5, .ref oa), (6, .ref cb)]) cx.1 cx.2.1 dL_client_41 hl (by decide) rfl (fun ls hl => ?_)
    refine lv_aload_n cx.1 cx.2.1 dL_client_43 rfl (lv_at hl 2 rfl) ?_
    refine lc_i 0 cx (hl.1.trans hml.symm) (kX0_shadowRows l D ca ad v) hI wk_171 wk_168 wk_169 wk_170 ⟨rfl, by decide +kernel⟩ rfl ⟨rfl, rfl⟩ ⟨Nat.le_of_ble_eq_true rfl, Nat.le_of_ble_eq_true rfl⟩ (Nat.le_of_ble_eq_true rfl) dL_client_44 ⟨Nat.le_of_ble_eq_true rfl, Nat.le_of_ble_eq_true rfl⟩ rfl (fun H locs hI => ?_)
    refine lv_istore (lv' := [(9, .int (xShRows v 40)), (8, .int (b2i (xCbw v (nI x) (nI y)))), (7, .int (b2i (xSeen v (nI i)))), (0, .ref (ad 0)), (1, .int 1), (2, .int (nI i)), (3, .int (nI x)), (4, .int (nI y)), (5, .ref oa), (6, .ref cb)]) cx.1 cx.2.1 dL_client_47 hl (by decide) rfl (fun ls hl => ?_)
    refine lv_aload_n cx.1 cx.2.1 dL_client_49 rfl (lv_at hl 3 rfl) ?_
    refine lc_i 0 cx (hl.1.trans hml.symm) (kX0_behind l D ca ad v) hI wk_179 wk_176 wk_177 wk_178 ⟨rfl, by decide +kernel⟩ rfl ⟨rfl, rfl⟩ ⟨Nat.le_of_ble_eq_true rfl, Nat.le_of_ble_eq_true rfl⟩ (Nat.le_of_ble_eq_true rfl) dL_client_50 ⟨Nat.le_of_ble_eq_true rfl, Nat.le_of_ble_eq_true rfl⟩ rfl (fun H locs hI => ?_)
    refine lv_istore (lv' := [(10, .int (if xp v = 0 then 0 else xBehinds v 40)), (9, .int (xShRows v 40)), (8, .int (b2i (xCbw v (nI x) (nI y)))), (7, .int (b2i (xSeen v (nI i)))), (0, .ref (ad 0)), (1, .int 1), (2, .int (nI i)), (3, .int (nI x)), (4, .int (nI y)), (5, .ref oa), (6, .ref cb)]) cx.1 cx.2.1 dL_client_53 hl (by decide) rfl (fun ls hl => ?_)
    refine lv_iload_n cx.1 cx.2.1 dL_client_55 rfl (lv_at hl 5 rfl) ?_
    refine lv_iconst (v := 2) cx.1 cx.2.1 dL_client_56 (by decide) ?_
    refine lv_icmp_ne (tgt := 199) cx.1 cx.2.1 dL_client_57 (by decide) (fun _ => ?_) (fun h9 => absurd h9 (by decide))
    refine lv_iload_n cx.1 cx.2.1 dL_client_199 rfl (lv_at hl 5 rfl) ?_
    refine lv_iconst (v := 3) cx.1 cx.2.1 dL_client_200 (by decide) ?_
    refine lv_icmp_ne (tgt := 312) cx.1 cx.2.1 dL_client_201 (by decide) (fun _ => ?_) (fun h9 => absurd h9 (by decide))
    refine lv_iload cx.1 cx.2.1 dL_client_312 (lv_at hl 2 rfl) ?_
    refine kb_ne (tgt := 322) cx dL_client_314 (by decide) (fun c_1 => ?_) (fun c_1 => ?_)
    · refine lv_iload_n cx.1 cx.2.1 dL_client_322 rfl (lv_at hl 5 rfl) ?_
      refine lv_if_ne (tgt := 340) cx.1 cx.2.1 dL_client_323 (by decide) (fun _ => ?_) (fun h9 => absurd h9 (by decide))
      refine lv_iload cx.1 cx.2.1 dL_client_340 (lv_at hl 3 rfl) ?_
      refine kb_eq (tgt := 349) cx dL_client_342 (by decide) (fun c_2 => ?_) (fun c_2 => ?_)
      · refine lv_bipush (v := (-10)) cx.1 cx.2.1 dL_client_349 (by decide) ?_
        refine lv_istore (lv' := [(11, .int (-10)), (10, .int (if xp v = 0 then 0 else xBehinds v 40)), (9, .int (xShRows v 40)), (8, .int (b2i (xCbw v (nI x) (nI y)))), (7, .int (b2i (xSeen v (nI i)))), (0, .ref (ad 0)), (1, .int 1), (2, .int (nI i)), (3, .int (nI x)), (4, .int (nI y)), (5, .ref oa), (6, .ref cb)]) cx.1 cx.2.1 dL_client_351 hl (by decide) rfl (fun ls hl => ?_)
        refine lv_aload_n cx.1 cx.2.1 dL_client_353 rfl (lv_at hl 5 rfl) ?_
        refine lv_iload_n cx.1 cx.2.1 dL_client_354 rfl (lv_at hl 6 rfl) ?_
        refine lv_iload_n cx.1 cx.2.1 dL_client_355 rfl (lv_at hl 7 rfl) ?_
        refine lv_iload_n cx.1 cx.2.1 dL_client_356 rfl (lv_at hl 8 rfl) ?_
        refine lv_iload cx.1 cx.2.1 dL_client_357 (lv_at hl 9 rfl) ?_
        refine lc_h 5 cx hE (hl.1.trans hml.symm) (CA.f3 (kL_asks1 l D ca ad v (nI i) (nI x) (nI y) h0 (fupd_n hi) hlS) (fupd_3 hi c_1 c_2)) hI wk_213 wk_211 wk_212 wk_0 ⟨by decide, by decide, by decide +kernel⟩ rfl ⟨rfl, rfl⟩ ⟨Nat.le_of_ble_eq_true rfl, Nat.le_of_ble_eq_true rfl⟩ (Nat.le_of_ble_eq_true rfl) dL_client_359 ⟨Nat.le_of_ble_eq_true rfl, Nat.le_of_ble_eq_true rfl⟩ rfl (fun H locs hI => ?_)
        refine lv_istore (lv' := [(12, .int (-10)), (11, .int (-10)), (10, .int (if xp v = 0 then 0 else xBehinds v 40)), (9, .int (xShRows v 40)), (8, .int (b2i (xCbw v (nI x) (nI y)))), (7, .int (b2i (xSeen v (nI i)))), (0, .ref (ad 0)), (1, .int 1), (2, .int (nI i)), (3, .int (nI x)), (4, .int (nI y)), (5, .ref oa), (6, .ref cb)]) cx.1 cx.2.1 dL_client_362 hl (by decide) rfl (fun ls hl => ?_)
        refine lv_aload cx.1 cx.2.1 dL_client_364 (lv_at hl 11 rfl) ?_
        refine lv_iload_n cx.1 cx.2.1 dL_client_366 rfl (lv_at hl 8 rfl) ?_
        refine lv_iload cx.1 cx.2.1 dL_client_367 (lv_at hl 1 rfl) ?_
        refine lv_if_ne (tgt := 383) cx.1 cx.2.1 dL_client_369 (by decide) (fun _ => ?_) (fun h9 => absurd h9 (by decide))
        refine lv_aload cx.1 cx.2.1 dL_client_383 (lv_at hl 11 rfl) ?_
        refine lv_iload_n cx.1 cx.2.1 dL_client_385 rfl (lv_at hl 8 rfl) ?_
        refine lr_on cx hI hi dL_client_386 ?_
        refine ls_on cx hI hi dL_client_387 (fun H locs hI => ?_)
        refine lv_aload cx.1 cx.2.1 dL_client_388 (lv_at hl 12 rfl) ?_
        refine lv_bipush (v := 6) cx.1 cx.2.1 dL_client_390 (by decide) ?_
        refine lv_dup2_11 cx.1 cx.2.1 dL_client_392 rfl rfl ?_
        refine lr_c cx hI (vp_in_nI (n := 6) (by decide) (by decide)) dL_client_393 ?_
        refine k_top (y := xc v) rfl ?_
        refine lv_iload cx.1 cx.2.1 dL_client_394 (lv_at hl 1 rfl) ?_
        refine lv_if_ne (tgt := 411) cx.1 cx.2.1 dL_client_396 (by decide) (fun _ => ?_) (fun h9 => absurd h9 (by decide))
        refine lv_iconst (v := 0) cx.1 cx.2.1 dL_client_411 (by decide) ?_
        refine lv_iadd cx.1 cx.2.1 dL_client_412 ?_
        refine ls_c6 cx hI dL_client_413 (fun H locs hI => ?_)
        refine lv_iload cx.1 cx.2.1 dL_client_414 (lv_at hl 0 rfl) ?_
        refine lv_iload cx.1 cx.2.1 dL_client_416 (lv_at hl 1 rfl) ?_
        refine lv_icmp_ne (tgt := 457) cx.1 cx.2.1 dL_client_418 (by decide) (fun h9 => absurd (by decide) h9) (fun _ => ?_)
        refine lv_aload_n cx.1 cx.2.1 dL_client_421 rfl (lv_at hl 6 rfl) ?_
        refine lc_i 0 cx (hl.1.trans hml.symm) (kX0_shadowRows l D ca ad v) hI wk_171 wk_168 wk_169 wk_170 ⟨rfl, by decide +kernel⟩ rfl ⟨rfl, rfl⟩ ⟨Nat.le_of_ble_eq_true rfl, Nat.le_of_ble_eq_true rfl⟩ (Nat.le_of_ble_eq_true rfl) dL_client_422 ⟨Nat.le_of_ble_eq_true rfl, Nat.le_of_ble_eq_true rfl⟩ rfl (fun H locs hI => ?_)
        refine lv_iload cx.1 cx.2.1 dL_client_425 (lv_at hl 3 rfl) ?_
        refine lv_iload cx.1 cx.2.1 dL_client_427 (lv_at hl 1 rfl) ?_
        refine lv_if_ne (tgt := 448) cx.1 cx.2.1 dL_client_429 (by decide) (fun _ => ?_) (fun h9 => absurd h9 (by decide))
        refine lv_iconst (v := 0) cx.1 cx.2.1 dL_client_448 (by decide) ?_
        refine lv_iadd cx.1 cx.2.1 dL_client_449 ?_
        refine lv_icmp_ne (tgt := 457) cx.1 cx.2.1 dL_client_450 (by decide) (fun h9 => absurd (add0 _).symm h9) (fun _ => ?_)
        refine lv_iconst (v := 1) cx.1 cx.2.1 dL_client_453 (by decide) ?_
        refine lv_goto (tgt := 458) cx.1 cx.2.1 dL_client_454 (by decide) ?_
        exact ke_g (lw ad oa cb ca v (upd (lO v) i ((lO v) i)) (lK (xp v) (xt v) (xq v) (xk v) (xl v) (xm v) ((xc v) + 0)) []) [] cx hr hlk hI (Nat.le_of_ble_eq_true rfl) (Nat.le_of_ble_eq_true rfl) dL_client_458 rfl rfl ⟨v, (h.up (by omega)), lw_eq (lO_self _ _) (lC_0 v)⟩
      · refine lv_iconst (v := 0) cx.1 cx.2.1 dL_client_345 (by decide) ?_
        refine lv_goto (tgt := 351) cx.1 cx.2.1 dL_client_346 (by decide) ?_
        refine lv_istore (lv' := [(11, .int 0), (10, .int (if xp v = 0 then 0 else xBehinds v 40)), (9, .int (xShRows v 40)), (8, .int (b2i (xCbw v (nI x) (nI y)))), (7, .int (b2i (xSeen v (nI i)))), (0, .ref (ad 0)), (1, .int 1), (2, .int (nI i)), (3, .int (nI x)), (4, .int (nI y)), (5, .ref oa), (6, .ref cb)]) cx.1 cx.2.1 dL_client_351 hl (by decide) rfl (fun ls hl => ?_)
        refine lv_aload_n cx.1 cx.2.1 dL_client_353 rfl (lv_at hl 5 rfl) ?_
        refine lv_iload_n cx.1 cx.2.1 dL_client_354 rfl (lv_at hl 6 rfl) ?_
        refine lv_iload_n cx.1 cx.2.1 dL_client_355 rfl (lv_at hl 7 rfl) ?_
        refine lv_iload_n cx.1 cx.2.1 dL_client_356 rfl (lv_at hl 8 rfl) ?_
        refine lv_iload cx.1 cx.2.1 dL_client_357 (lv_at hl 9 rfl) ?_
        refine lc_h 5 cx hE (hl.1.trans hml.symm) (CA.ok (kL_asks1 l D ca ad v (nI i) (nI x) (nI y) h0 (fupd_n hi) hlS) (fupd_0 hi c_1 c_2)) hI wk_213 wk_211 wk_212 wk_0 ⟨by decide, by decide, by decide +kernel⟩ rfl ⟨rfl, rfl⟩ ⟨Nat.le_of_ble_eq_true rfl, Nat.le_of_ble_eq_true rfl⟩ (Nat.le_of_ble_eq_true rfl) dL_client_359 ⟨Nat.le_of_ble_eq_true rfl, Nat.le_of_ble_eq_true rfl⟩ rfl (fun H locs hI => ?_)
        refine lv_istore (lv' := [(12, .int 0), (11, .int 0), (10, .int (if xp v = 0 then 0 else xBehinds v 40)), (9, .int (xShRows v 40)), (8, .int (b2i (xCbw v (nI x) (nI y)))), (7, .int (b2i (xSeen v (nI i)))), (0, .ref (ad 0)), (1, .int 1), (2, .int (nI i)), (3, .int (nI x)), (4, .int (nI y)), (5, .ref oa), (6, .ref cb)]) cx.1 cx.2.1 dL_client_362 hl (by decide) rfl (fun ls hl => ?_)
        refine lv_aload cx.1 cx.2.1 dL_client_364 (lv_at hl 11 rfl) ?_
        refine lv_iload_n cx.1 cx.2.1 dL_client_366 rfl (lv_at hl 8 rfl) ?_
        refine lv_iload cx.1 cx.2.1 dL_client_367 (lv_at hl 1 rfl) ?_
        refine lv_if_ne (tgt := 383) cx.1 cx.2.1 dL_client_369 (by decide) (fun h9 => absurd (by decide) h9) (fun _ => ?_)
        refine lv_sipush (v := 1000) cx.1 cx.2.1 dL_client_372 (by decide) ?_
        refine lv_iload_n cx.1 cx.2.1 dL_client_375 rfl (lv_at hl 9 rfl) ?_
        refine lv_imul cx.1 cx.2.1 dL_client_376 ?_
        refine lv_iload cx.1 cx.2.1 dL_client_377 (lv_at hl 10 rfl) ?_
        refine lv_iadd cx.1 cx.2.1 dL_client_379 ?_
        refine k_top (y := nI (1000 * x + y)) (row_n x y) ?_
        refine lv_goto (tgt := 387) cx.1 cx.2.1 dL_client_380 (by decide) ?_
        refine ls_on cx hI hi dL_client_387 (fun H locs hI => ?_)
        refine lv_aload cx.1 cx.2.1 dL_client_388 (lv_at hl 12 rfl) ?_
        refine lv_bipush (v := 6) cx.1 cx.2.1 dL_client_390 (by decide) ?_
        refine lv_dup2_11 cx.1 cx.2.1 dL_client_392 rfl rfl ?_
        refine lr_c cx hI (vp_in_nI (n := 6) (by decide) (by decide)) dL_client_393 ?_
        refine k_top (y := xc v) rfl ?_
        refine lv_iload cx.1 cx.2.1 dL_client_394 (lv_at hl 1 rfl) ?_
        refine lv_if_ne (tgt := 411) cx.1 cx.2.1 dL_client_396 (by decide) (fun h9 => absurd (by decide) h9) (fun _ => ?_)
        refine lv_aload cx.1 cx.2.1 dL_client_399 (lv_at hl 12 rfl) ?_
        refine lv_iconst (v := 0) cx.1 cx.2.1 dL_client_401 (by decide) ?_
        refine lr_c cx hI (vp_in_nI (n := 0) (by decide) (by decide)) dL_client_402 ?_
        refine k_top (y := xp v) rfl ?_
        refine lv_iconst (v := 1) cx.1 cx.2.1 dL_client_403 (by decide) ?_
        refine lv_icmp_ne (tgt := 411) cx.1 cx.2.1 dL_client_404 (by decide) (fun c_3 => ?_) (fun c_3 => ?_)
        · refine lv_iconst (v := 0) cx.1 cx.2.1 dL_client_411 (by decide) ?_
          refine lv_iadd cx.1 cx.2.1 dL_client_412 ?_
          refine ls_c6 cx hI dL_client_413 (fun H locs hI => ?_)
          refine lv_iload cx.1 cx.2.1 dL_client_414 (lv_at hl 0 rfl) ?_
          refine lv_iload cx.1 cx.2.1 dL_client_416 (lv_at hl 1 rfl) ?_
          refine lv_icmp_ne (tgt := 457) cx.1 cx.2.1 dL_client_418 (by decide) (fun h9 => absurd (by decide) h9) (fun _ => ?_)
          refine lv_aload_n cx.1 cx.2.1 dL_client_421 rfl (lv_at hl 6 rfl) ?_
          refine lc_i 0 cx (hl.1.trans hml.symm) (kX0_shadowRows l D ca ad (xFollow (xPut v (nI i) (nI x) (nI y)) (nI i))) hI wk_171 wk_168 wk_169 wk_170 ⟨rfl, by decide +kernel⟩ rfl ⟨rfl, rfl⟩ ⟨Nat.le_of_ble_eq_true rfl, Nat.le_of_ble_eq_true rfl⟩ (Nat.le_of_ble_eq_true rfl) dL_client_422 ⟨Nat.le_of_ble_eq_true rfl, Nat.le_of_ble_eq_true rfl⟩ rfl (fun H locs hI => ?_)
          refine lv_iload cx.1 cx.2.1 dL_client_425 (lv_at hl 3 rfl) ?_
          refine lv_iload cx.1 cx.2.1 dL_client_427 (lv_at hl 1 rfl) ?_
          refine lv_if_ne (tgt := 448) cx.1 cx.2.1 dL_client_429 (by decide) (fun h9 => absurd (by decide) h9) (fun _ => ?_)
          refine lv_iload_n cx.1 cx.2.1 dL_client_432 rfl (lv_at hl 7 rfl) ?_
          refine lv_if_ne (tgt := 448) cx.1 cx.2.1 dL_client_433 (by decide) (fun _ => ?_) (fun h9 => absurd h9 (by decide))
          refine lv_iconst (v := 0) cx.1 cx.2.1 dL_client_448 (by decide) ?_
          refine lv_iadd cx.1 cx.2.1 dL_client_449 ?_
          refine lv_icmp_ne (tgt := 457) cx.1 cx.2.1 dL_client_450 (by decide) (fun h9 => absurd ((rows_u hX hi hx hy hW c_1 c_2).trans (add0 _).symm) h9) (fun _ => ?_)
          refine lv_iconst (v := 1) cx.1 cx.2.1 dL_client_453 (by decide) ?_
          refine lv_goto (tgt := 458) cx.1 cx.2.1 dL_client_454 (by decide) ?_
          exact ke_g (lw ad oa cb ca (xFollow (xPut v (nI i) (nI x) (nI y)) (nI i)) (upd (lO v) i (nI (1000 * x + y))) (lK (xp v) (xt v) (xq v) (xk v) (xl v) (xm v) ((xc v) + 0)) []) [] cx hr hlk hI (Nat.le_of_ble_eq_true rfl) (Nat.le_of_ble_eq_true rfl) dL_client_458 rfl rfl ⟨_, hW.up (by omega), lw_eq (lO_w hi hx _) (lC_w0 c_3 _ _ _ _)⟩
        · refine lv_iconst (v := 1) cx.1 cx.2.1 dL_client_407 (by decide) ?_
          refine lv_goto (tgt := 412) cx.1 cx.2.1 dL_client_408 (by decide) ?_
          refine lv_iadd cx.1 cx.2.1 dL_client_412 ?_
          refine ls_c6 cx hI dL_client_413 (fun H locs hI => ?_)
          refine lv_iload cx.1 cx.2.1 dL_client_414 (lv_at hl 0 rfl) ?_
          refine lv_iload cx.1 cx.2.1 dL_client_416 (lv_at hl 1 rfl) ?_
          refine lv_icmp_ne (tgt := 457) cx.1 cx.2.1 dL_client_418 (by decide) (fun h9 => absurd (by decide) h9) (fun _ => ?_)
          refine lv_aload_n cx.1 cx.2.1 dL_client_421 rfl (lv_at hl 6 rfl) ?_
          refine lc_i 0 cx (hl.1.trans hml.symm) (kX0_shadowRows l D ca ad (xFollow (xPut v (nI i) (nI x) (nI y)) (nI i))) hI wk_171 wk_168 wk_169 wk_170 ⟨rfl, by decide +kernel⟩ rfl ⟨rfl, rfl⟩ ⟨Nat.le_of_ble_eq_true rfl, Nat.le_of_ble_eq_true rfl⟩ (Nat.le_of_ble_eq_true rfl) dL_client_422 ⟨Nat.le_of_ble_eq_true rfl, Nat.le_of_ble_eq_true rfl⟩ rfl (fun H locs hI => ?_)
          refine lv_iload cx.1 cx.2.1 dL_client_425 (lv_at hl 3 rfl) ?_
          refine lv_iload cx.1 cx.2.1 dL_client_427 (lv_at hl 1 rfl) ?_
          refine lv_if_ne (tgt := 448) cx.1 cx.2.1 dL_client_429 (by decide) (fun h9 => absurd (by decide) h9) (fun _ => ?_)
          refine lv_iload_n cx.1 cx.2.1 dL_client_432 rfl (lv_at hl 7 rfl) ?_
          refine lv_if_ne (tgt := 448) cx.1 cx.2.1 dL_client_433 (by decide) (fun _ => ?_) (fun h9 => absurd h9 (by decide))
          refine lv_iconst (v := 0) cx.1 cx.2.1 dL_client_448 (by decide) ?_
          refine lv_iadd cx.1 cx.2.1 dL_client_449 ?_
          refine lv_icmp_ne (tgt := 457) cx.1 cx.2.1 dL_client_450 (by decide) (fun h9 => absurd ((rows_u hX hi hx hy hW c_1 c_2).trans (add0 _).symm) h9) (fun _ => ?_)
          refine lv_iconst (v := 1) cx.1 cx.2.1 dL_client_453 (by decide) ?_
          refine lv_goto (tgt := 458) cx.1 cx.2.1 dL_client_454 (by decide) ?_
          exact ke_g (lw ad oa cb ca (xFollow (xPut v (nI i) (nI x) (nI y)) (nI i)) (upd (lO v) i (nI (1000 * x + y))) (lK (xp v) (xt v) (xq v) (xk v) (xl v) (xm v) ((xc v) + 1)) []) [] cx hr hlk hI (Nat.le_of_ble_eq_true rfl) (Nat.le_of_ble_eq_true rfl) dL_client_458 rfl rfl ⟨_, hW.up (by omega), lw_eq (lO_w hi hx _) (lC_w1 c_3 (by have := hX.2.1.1; omega) hX.2.1.2.1 _ _ _ _)⟩
    · refine lv_bipush (v := (-9)) cx.1 cx.2.1 dL_client_317 (by decide) ?_
      refine lv_goto (tgt := 351) cx.1 cx.2.1 dL_client_319 (by decide) ?_
      refine lv_istore (lv' := [(11, .int (-9)), (10, .int (if xp v = 0 then 0 else xBehinds v 40)), (9, .int (xShRows v 40)), (8, .int (b2i (xCbw v (nI x) (nI y)))), (7, .int (b2i (xSeen v (nI i)))), (0, .ref (ad 0)), (1, .int 1), (2, .int (nI i)), (3, .int (nI x)), (4, .int (nI y)), (5, .ref oa), (6, .ref cb)]) cx.1 cx.2.1 dL_client_351 hl (by decide) rfl (fun ls hl => ?_)
      refine lv_aload_n cx.1 cx.2.1 dL_client_353 rfl (lv_at hl 5 rfl) ?_
      refine lv_iload_n cx.1 cx.2.1 dL_client_354 rfl (lv_at hl 6 rfl) ?_
      refine lv_iload_n cx.1 cx.2.1 dL_client_355 rfl (lv_at hl 7 rfl) ?_
      refine lv_iload_n cx.1 cx.2.1 dL_client_356 rfl (lv_at hl 8 rfl) ?_
      refine lv_iload cx.1 cx.2.1 dL_client_357 (lv_at hl 9 rfl) ?_
      refine lc_h 5 cx hE (hl.1.trans hml.symm) (CA.f2 (kL_asks1 l D ca ad v (nI i) (nI x) (nI y) h0 (fupd_n hi) hlS) (fupd_2 hi c_1)) hI wk_213 wk_211 wk_212 wk_0 ⟨by decide, by decide, by decide +kernel⟩ rfl ⟨rfl, rfl⟩ ⟨Nat.le_of_ble_eq_true rfl, Nat.le_of_ble_eq_true rfl⟩ (Nat.le_of_ble_eq_true rfl) dL_client_359 ⟨Nat.le_of_ble_eq_true rfl, Nat.le_of_ble_eq_true rfl⟩ rfl (fun H locs hI => ?_)
      refine lv_istore (lv' := [(12, .int (-9)), (11, .int (-9)), (10, .int (if xp v = 0 then 0 else xBehinds v 40)), (9, .int (xShRows v 40)), (8, .int (b2i (xCbw v (nI x) (nI y)))), (7, .int (b2i (xSeen v (nI i)))), (0, .ref (ad 0)), (1, .int 1), (2, .int (nI i)), (3, .int (nI x)), (4, .int (nI y)), (5, .ref oa), (6, .ref cb)]) cx.1 cx.2.1 dL_client_362 hl (by decide) rfl (fun ls hl => ?_)
      refine lv_aload cx.1 cx.2.1 dL_client_364 (lv_at hl 11 rfl) ?_
      refine lv_iload_n cx.1 cx.2.1 dL_client_366 rfl (lv_at hl 8 rfl) ?_
      refine lv_iload cx.1 cx.2.1 dL_client_367 (lv_at hl 1 rfl) ?_
      refine lv_if_ne (tgt := 383) cx.1 cx.2.1 dL_client_369 (by decide) (fun _ => ?_) (fun h9 => absurd h9 (by decide))
      refine lv_aload cx.1 cx.2.1 dL_client_383 (lv_at hl 11 rfl) ?_
      refine lv_iload_n cx.1 cx.2.1 dL_client_385 rfl (lv_at hl 8 rfl) ?_
      refine lr_on cx hI hi dL_client_386 ?_
      refine ls_on cx hI hi dL_client_387 (fun H locs hI => ?_)
      refine lv_aload cx.1 cx.2.1 dL_client_388 (lv_at hl 12 rfl) ?_
      refine lv_bipush (v := 6) cx.1 cx.2.1 dL_client_390 (by decide) ?_
      refine lv_dup2_11 cx.1 cx.2.1 dL_client_392 rfl rfl ?_
      refine lr_c cx hI (vp_in_nI (n := 6) (by decide) (by decide)) dL_client_393 ?_
      refine k_top (y := xc v) rfl ?_
      refine lv_iload cx.1 cx.2.1 dL_client_394 (lv_at hl 1 rfl) ?_
      refine lv_if_ne (tgt := 411) cx.1 cx.2.1 dL_client_396 (by decide) (fun _ => ?_) (fun h9 => absurd h9 (by decide))
      refine lv_iconst (v := 0) cx.1 cx.2.1 dL_client_411 (by decide) ?_
      refine lv_iadd cx.1 cx.2.1 dL_client_412 ?_
      refine ls_c6 cx hI dL_client_413 (fun H locs hI => ?_)
      refine lv_iload cx.1 cx.2.1 dL_client_414 (lv_at hl 0 rfl) ?_
      refine lv_iload cx.1 cx.2.1 dL_client_416 (lv_at hl 1 rfl) ?_
      refine lv_icmp_ne (tgt := 457) cx.1 cx.2.1 dL_client_418 (by decide) (fun h9 => absurd (by decide) h9) (fun _ => ?_)
      refine lv_aload_n cx.1 cx.2.1 dL_client_421 rfl (lv_at hl 6 rfl) ?_
      refine lc_i 0 cx (hl.1.trans hml.symm) (kX0_shadowRows l D ca ad v) hI wk_171 wk_168 wk_169 wk_170 ⟨rfl, by decide +kernel⟩ rfl ⟨rfl, rfl⟩ ⟨Nat.le_of_ble_eq_true rfl, Nat.le_of_ble_eq_true rfl⟩ (Nat.le_of_ble_eq_true rfl) dL_client_422 ⟨Nat.le_of_ble_eq_true rfl, Nat.le_of_ble_eq_true rfl⟩ rfl (fun H locs hI => ?_)
      refine lv_iload cx.1 cx.2.1 dL_client_425 (lv_at hl 3 rfl) ?_
      refine lv_iload cx.1 cx.2.1 dL_client_427 (lv_at hl 1 rfl) ?_
      refine lv_if_ne (tgt := 448) cx.1 cx.2.1 dL_client_429 (by decide) (fun _ => ?_) (fun h9 => absurd h9 (by decide))
      refine lv_iconst (v := 0) cx.1 cx.2.1 dL_client_448 (by decide) ?_
      refine lv_iadd cx.1 cx.2.1 dL_client_449 ?_
      refine lv_icmp_ne (tgt := 457) cx.1 cx.2.1 dL_client_450 (by decide) (fun h9 => absurd (add0 _).symm h9) (fun _ => ?_)
      refine lv_iconst (v := 1) cx.1 cx.2.1 dL_client_453 (by decide) ?_
      refine lv_goto (tgt := 458) cx.1 cx.2.1 dL_client_454 (by decide) ?_
      exact ke_g (lw ad oa cb ca v (upd (lO v) i ((lO v) i)) (lK (xp v) (xt v) (xq v) (xk v) (xl v) (xm v) ((xc v) + 0)) []) [] cx hr hlk hI (Nat.le_of_ble_eq_true rfl) (Nat.le_of_ble_eq_true rfl) dL_client_458 rfl rfl ⟨v, (h.up (by omega)), lw_eq (lO_self _ _) (lC_0 v)⟩
  ·
    refine lv_icmp_ne (tgt := 36) cx.1 cx.2.1 dL_client_16 (by decide) (fun c_4 => ?_) (fun c_4 => ?_)
    · refine lv_iconst (v := 1) cx.1 cx.2.1 dL_client_36 (by decide) ?_
      refine lv_goto (tgt := 41) cx.1 cx.2.1 dL_client_37 (by decide) ?_
      exact k_top (by first | exact cbw_t hx hy c_4 | exact cbw_p hx hy c_4) (hj41 _ _ hI)
    · refine lv_aload cx.1 cx.2.1 dL_client_19 (lv_at hl 7 rfl) ?_
      refine lv_sipush (v := 1000) cx.1 cx.2.1 dL_client_21 (by decide) ?_
      refine lv_iload_n cx.1 cx.2.1 dL_client_24 rfl (lv_at hl 4 rfl) ?_
      refine lv_imul cx.1 cx.2.1 dL_client_25 ?_
      refine lv_iload cx.1 cx.2.1 dL_client_26 (lv_at hl 5 rfl) ?_
      refine lv_iadd cx.1 cx.2.1 dL_client_28 ?_
      refine k_top (y := nI (1000 * x + y)) (row_n x y) ?_
      refine lv_iconst (v := 0) cx.1 cx.2.1 dL_client_29 (by decide) ?_
      refine lc_c 3 cx (hl.1.trans hml.symm) (kL_altered l D ca cb (lK (xp v) (xt v) (xq v) (xk v) (xl v) (xm v) (xc v)) (nI (1000 * x + y)) 0) hI wk_167 wk_165 wk_166 wk_0 ⟨by decide, by decide, by decide +kernel⟩ rfl ⟨rfl, rfl⟩ ⟨Nat.le_of_ble_eq_true rfl, Nat.le_of_ble_eq_true rfl⟩ (Nat.le_of_ble_eq_true rfl) dL_client_30 ⟨Nat.le_of_ble_eq_true rfl, Nat.le_of_ble_eq_true rfl⟩ rfl (fun H locs hI => ?_)
      refine lv_if_lt (tgt := 40) cx.1 cx.2.1 dL_client_33 (by decide) (fun c_5 => ?_) (fun c_5 => ?_)
      · refine lv_iconst (v := 0) cx.1 cx.2.1 dL_client_40 (by decide) ?_
        exact k_top (cbw_n hx hy hX.1.2.1 c_4 c_5) (hj41 _ _ hI)
      · refine lv_iconst (v := 1) cx.1 cx.2.1 dL_client_36 (by decide) ?_
        refine lv_goto (tgt := 41) cx.1 cx.2.1 dL_client_37 (by decide) ?_
        exact k_top (by first | exact cbw_t hx hy c_5 | exact cbw_p hx hy c_5) (hj41 _ _ hI)
set_option maxHeartbeats 4000000 in
set_option maxRecDepth 100000 in
theorem kL_client2 (l : Launch) (D : va_G) (ca : Nat → ClassId) (ad : Nat → Nat) (oa cb : Nat) {v : XS} {n i x y : Nat} (h : zI n v) (hn : n + 2 ≤ 1000) (hi : i < 40) (hx : x ≤ 999) (hy : y ≤ 999) (hlS : l.stackTraces = false) : CG l yL_client cL_client 15 (some .boolean) { frames := 9, cells := 1, slots := 6, locals := 201 } D ca (lw ad oa cb ca v (lO v) (lC v) []) [.ref (ad 0), .int 2, .int (nI i), .int (nI x), .int (nI y), .ref oa, .ref cb] (some (.int 1)) (LW (n + 2) ad oa cb ca) 1 6 := by
  refine CG.of (by decide) (Nat.le_of_ble_eq_true rfl) ?_
  intro p e s m below meth c0 A ls cx hml hr hlk hE hI hl
  have hl : lv_has ls 15 [(0, .ref (ad 0)), (1, .int 2), (2, .int (nI i)), (3, .int (nI x)), (4, .int (nI y)), (5, .ref oa), (6, .ref cb)] := hl
  obtain ⟨c1, m1, hX⟩ := id h
  have hA : ∀ j, j < 40 → zA v j := fun j hj => (hX.1.1 j hj).1
  have hZ : ∀ j, j < 40 → zS v j := fun j hj => (hX.1.1 j hj).2
  have h0 : ¬ xc v < 0 := by rw [hX.2.1.2.1]; exact nI_pos (by have := hX.2.1.1; omega)
  have hI : KI D A (lw ad oa cb ca v (lO v) (lK (xp v) (xt v) (xq v) (xk v) (xl v) (xm v) (xc v)) []) s.heap s.heap [] := hI
  obtain ⟨j, hj, ej⟩ : ∃ j : Nat, j < 40 ∧ nI x - nI x / 40 * 40 = nI j := ⟨x % 40, Nat.mod_lt _ (by decide), pk_rem (by omega) (by decide) (by decide)⟩
  refine lv_aload_n cx.1 cx.2.1 dL_client_0 rfl (lv_at hl 0 rfl) ?_
  refine lv_aload cx.1 cx.2.1 dL_client_1 (lv_at hl 5 rfl) ?_
  refine lv_aload cx.1 cx.2.1 dL_client_3 (lv_at hl 6 rfl) ?_
  refine lv_iload_n cx.1 cx.2.1 dL_client_5 rfl (lv_at hl 2 rfl) ?_
  refine lc_w 4 cx (hl.1.trans hml.symm) (kL_isSeen l D ca ad oa cb v (lO v) (xp v) (xt v) (xq v) (xk v) (xl v) (xm v) (xc v) hi (hA i hi) (hZ i hi) rfl rfl) hI wk_82 wk_80 wk_81 wk_0 ⟨by decide, by decide, by decide +kernel⟩ rfl ⟨rfl, rfl⟩ ⟨Nat.le_of_ble_eq_true rfl, Nat.le_of_ble_eq_true rfl⟩ (Nat.le_of_ble_eq_true rfl) dL_client_6 ⟨Nat.le_of_ble_eq_true rfl, Nat.le_of_ble_eq_true rfl⟩ rfl (fun H locs hI => ?_)
  refine lv_istore (lv' := [(7, .int (b2i (xSeen v (nI i)))), (0, .ref (ad 0)), (1, .int 2), (2, .int (nI i)), (3, .int (nI x)), (4, .int (nI y)), (5, .ref oa), (6, .ref cb)]) cx.1 cx.2.1 dL_client_9 hl (by decide) rfl (fun ls hl => ?_)
  refine lv_aload cx.1 cx.2.1 dL_client_11 (lv_at hl 7 rfl) ?_
  refine lv_iconst (v := 0) cx.1 cx.2.1 dL_client_13 (by decide) ?_
  refine lr_c cx hI (vp_in_nI (n := 0) (by decide) (by decide)) dL_client_14 ?_
  refine k_top (y := xp v) rfl ?_
  refine lv_iconst (v := 2) cx.1 cx.2.1 dL_client_15 (by decide) ?_
  refine k_join (D := D) (A := A) 41 (lw ad oa cb ca v (lO v) (lK (xp v) (xt v) (xq v) (xk v) (xl v) (xm v) (xc v)) []) [.int (b2i (xCbw v (nI x) (nI y)))] (fun H locs hI => ?_) (fun hj41 => ?_)
  · refine lv_istore (lv' := [(8, .int (b2i (xCbw v (nI x) (nI y)))), (7, .int (b2i (xSeen v (nI i)))), (0, .ref (ad 0)), (1, .int 2), (2, .int (nI i)), (3, .int (nI x)), (4, .int (nI y)), (5, .ref oa), (6, .ref cb)]) cx.1 cx.2.1 dL_client_41 hl (by decide) rfl (fun ls hl => ?_)
    refine lv_aload_n cx.1 cx.2.1 dL_client_43 rfl (lv_at hl 2 rfl) ?_
    refine lc_i 0 cx (hl.1.trans hml.symm) (kX0_shadowRows l D ca ad v) hI wk_171 wk_168 wk_169 wk_170 ⟨rfl, by decide +kernel⟩ rfl ⟨rfl, rfl⟩ ⟨Nat.le_of_ble_eq_true rfl, Nat.le_of_ble_eq_true rfl⟩ (Nat.le_of_ble_eq_true rfl) dL_client_44 ⟨Nat.le_of_ble_eq_true rfl, Nat.le_of_ble_eq_true rfl⟩ rfl (fun H locs hI => ?_)
    refine lv_istore (lv' := [(9, .int (xShRows v 40)), (8, .int (b2i (xCbw v (nI x) (nI y)))), (7, .int (b2i (xSeen v (nI i)))), (0, .ref (ad 0)), (1, .int 2), (2, .int (nI i)), (3, .int (nI x)), (4, .int (nI y)), (5, .ref oa), (6, .ref cb)]) cx.1 cx.2.1 dL_client_47 hl (by decide) rfl (fun ls hl => ?_)
    refine lv_aload_n cx.1 cx.2.1 dL_client_49 rfl (lv_at hl 3 rfl) ?_
    refine lc_i 0 cx (hl.1.trans hml.symm) (kX0_behind l D ca ad v) hI wk_179 wk_176 wk_177 wk_178 ⟨rfl, by decide +kernel⟩ rfl ⟨rfl, rfl⟩ ⟨Nat.le_of_ble_eq_true rfl, Nat.le_of_ble_eq_true rfl⟩ (Nat.le_of_ble_eq_true rfl) dL_client_50 ⟨Nat.le_of_ble_eq_true rfl, Nat.le_of_ble_eq_true rfl⟩ rfl (fun H locs hI => ?_)
    refine lv_istore (lv' := [(10, .int (if xp v = 0 then 0 else xBehinds v 40)), (9, .int (xShRows v 40)), (8, .int (b2i (xCbw v (nI x) (nI y)))), (7, .int (b2i (xSeen v (nI i)))), (0, .ref (ad 0)), (1, .int 2), (2, .int (nI i)), (3, .int (nI x)), (4, .int (nI y)), (5, .ref oa), (6, .ref cb)]) cx.1 cx.2.1 dL_client_53 hl (by decide) rfl (fun ls hl => ?_)
    refine lv_iload_n cx.1 cx.2.1 dL_client_55 rfl (lv_at hl 5 rfl) ?_
    refine lv_iconst (v := 2) cx.1 cx.2.1 dL_client_56 (by decide) ?_
    refine lv_icmp_ne (tgt := 199) cx.1 cx.2.1 dL_client_57 (by decide) (fun h9 => absurd (by decide) h9) (fun _ => ?_)
    refine lv_iload_n cx.1 cx.2.1 dL_client_60 rfl (lv_at hl 7 rfl) ?_
    refine lv_bipush (v := 40) cx.1 cx.2.1 dL_client_61 (by decide) ?_
    refine lv_irem cx.1 cx.2.1 dL_client_63 (by decide) ?_
    refine k_top (y := nI j) ej ?_
    refine lv_istore (lv' := [(11, .int (nI j)), (10, .int (if xp v = 0 then 0 else xBehinds v 40)), (9, .int (xShRows v 40)), (8, .int (b2i (xCbw v (nI x) (nI y)))), (7, .int (b2i (xSeen v (nI i)))), (0, .ref (ad 0)), (1, .int 2), (2, .int (nI i)), (3, .int (nI x)), (4, .int (nI y)), (5, .ref oa), (6, .ref cb)]) cx.1 cx.2.1 dL_client_64 hl (by decide) rfl (fun ls hl => ?_)
    refine lv_aload_n cx.1 cx.2.1 dL_client_66 rfl (lv_at hl 5 rfl) ?_
    refine lv_aload cx.1 cx.2.1 dL_client_67 (lv_at hl 10 rfl) ?_
    refine lv_aload cx.1 cx.2.1 dL_client_69 (lv_at hl 11 rfl) ?_
    refine lv_iload cx.1 cx.2.1 dL_client_71 (lv_at hl 0 rfl) ?_
    refine lc_w 4 cx (hl.1.trans hml.symm) (kL_isSeen l D ca ad oa cb v (lO v) (xp v) (xt v) (xq v) (xk v) (xl v) (xm v) (xc v) hj (hA j hj) (hZ j hj) rfl rfl) hI wk_82 wk_80 wk_81 wk_0 ⟨by decide, by decide, by decide +kernel⟩ rfl ⟨rfl, rfl⟩ ⟨Nat.le_of_ble_eq_true rfl, Nat.le_of_ble_eq_true rfl⟩ (Nat.le_of_ble_eq_true rfl) dL_client_73 ⟨Nat.le_of_ble_eq_true rfl, Nat.le_of_ble_eq_true rfl⟩ rfl (fun H locs hI => ?_)
    refine lv_istore (lv' := [(12, .int (b2i (xSeen v (nI j)))), (11, .int (nI j)), (10, .int (if xp v = 0 then 0 else xBehinds v 40)), (9, .int (xShRows v 40)), (8, .int (b2i (xCbw v (nI x) (nI y)))), (7, .int (b2i (xSeen v (nI i)))), (0, .ref (ad 0)), (1, .int 2), (2, .int (nI i)), (3, .int (nI x)), (4, .int (nI y)), (5, .ref oa), (6, .ref cb)]) cx.1 cx.2.1 dL_client_76 hl (by decide) rfl (fun ls hl => ?_)
    refine lv_iload_n cx.1 cx.2.1 dL_client_78 rfl (lv_at hl 8 rfl) ?_
    refine lv_iload cx.1 cx.2.1 dL_client_79 (lv_at hl 1 rfl) ?_
    refine lv_icmp_ne (tgt := 89) cx.1 cx.2.1 dL_client_81 (by decide) (fun c_1 => ?_) (fun c_1 => ?_)
    · refine lv_iload cx.1 cx.2.1 dL_client_89 (lv_at hl 5 rfl) ?_
      refine kb_ne (tgt := 99) cx dL_client_91 (by decide) (fun c_2 => ?_) (fun c_2 => ?_)
      · refine lv_iload cx.1 cx.2.1 dL_client_99 (lv_at hl 0 rfl) ?_
        refine kb_eq (tgt := 109) cx dL_client_101 (by decide) (fun c_3 => ?_) (fun c_3 => ?_)
        · refine lv_iconst (v := 0) cx.1 cx.2.1 dL_client_109 (by decide) ?_
          refine lv_istore (lv' := [(13, .int 0), (12, .int (b2i (xSeen v (nI j)))), (11, .int (nI j)), (10, .int (if xp v = 0 then 0 else xBehinds v 40)), (9, .int (xShRows v 40)), (8, .int (b2i (xCbw v (nI x) (nI y)))), (7, .int (b2i (xSeen v (nI i)))), (0, .ref (ad 0)), (1, .int 2), (2, .int (nI i)), (3, .int (nI x)), (4, .int (nI y)), (5, .ref oa), (6, .ref cb)]) cx.1 cx.2.1 dL_client_110 hl (by decide) rfl (fun ls hl => ?_)
          refine lv_aload_n cx.1 cx.2.1 dL_client_112 rfl (lv_at hl 7 rfl) ?_
          refine lv_iconst (v := 2) cx.1 cx.2.1 dL_client_113 (by decide) ?_
          refine lv_iload_n cx.1 cx.2.1 dL_client_114 rfl (lv_at hl 9 rfl) ?_
          refine lv_iload cx.1 cx.2.1 dL_client_115 (lv_at hl 2 rfl) ?_
          refine lv_iconst (v := 0) cx.1 cx.2.1 dL_client_117 (by decide) ?_
          refine lc_h 5 cx hE (hl.1.trans hml.symm) (CA.ok (kL_asks2 l D ca ad v (nI i) (nI j) 0 h0 (frek_n hi hj) hlS) (frek_0 hi hj c_1 c_2 c_3)) hI wk_213 wk_211 wk_212 wk_0 ⟨by decide, by decide, by decide +kernel⟩ rfl ⟨rfl, rfl⟩ ⟨Nat.le_of_ble_eq_true rfl, Nat.le_of_ble_eq_true rfl⟩ (Nat.le_of_ble_eq_true rfl) dL_client_118 ⟨Nat.le_of_ble_eq_true rfl, Nat.le_of_ble_eq_true rfl⟩ rfl (fun H locs hI => ?_)
          refine lv_istore (lv' := [(14, .int 0), (13, .int 0), (12, .int (b2i (xSeen v (nI j)))), (11, .int (nI j)), (10, .int (if xp v = 0 then 0 else xBehinds v 40)), (9, .int (xShRows v 40)), (8, .int (b2i (xCbw v (nI x) (nI y)))), (7, .int (b2i (xSeen v (nI i)))), (0, .ref (ad 0)), (1, .int 2), (2, .int (nI i)), (3, .int (nI x)), (4, .int (nI y)), (5, .ref oa), (6, .ref cb)]) cx.1 cx.2.1 dL_client_121 hl (by decide) rfl (fun ls hl => ?_)
          refine lv_iload cx.1 cx.2.1 dL_client_123 (lv_at hl 1 rfl) ?_
          refine lv_if_ne (tgt := 163) cx.1 cx.2.1 dL_client_125 (by decide) (fun h9 => absurd (by decide) h9) (fun _ => ?_)
          refine lv_aload cx.1 cx.2.1 dL_client_128 (lv_at hl 13 rfl) ?_
          refine lv_iload cx.1 cx.2.1 dL_client_130 (lv_at hl 3 rfl) ?_
          refine lv_aload cx.1 cx.2.1 dL_client_132 (lv_at hl 13 rfl) ?_
          refine lv_iload_n cx.1 cx.2.1 dL_client_134 rfl (lv_at hl 10 rfl) ?_
          refine lr_on cx hI hi dL_client_135 ?_
          refine ls_on cx hI hj dL_client_136 (fun H locs hI => ?_)
          refine lv_aload cx.1 cx.2.1 dL_client_137 (lv_at hl 13 rfl) ?_
          refine lv_iload_n cx.1 cx.2.1 dL_client_139 rfl (lv_at hl 10 rfl) ?_
          refine lv_iconst (v := (-1)) cx.1 cx.2.1 dL_client_140 (by decide) ?_
          refine ls_on cx hI hi dL_client_141 (fun H locs hI => ?_)
          refine lv_aload cx.1 cx.2.1 dL_client_142 (lv_at hl 14 rfl) ?_
          refine lv_bipush (v := 6) cx.1 cx.2.1 dL_client_144 (by decide) ?_
          refine lv_dup2_11 cx.1 cx.2.1 dL_client_146 rfl rfl ?_
          refine lr_c cx hI (vp_in_nI (n := 6) (by decide) (by decide)) dL_client_147 ?_
          refine k_top (y := xc v) rfl ?_
          refine lv_aload cx.1 cx.2.1 dL_client_148 (lv_at hl 14 rfl) ?_
          refine lv_iconst (v := 0) cx.1 cx.2.1 dL_client_150 (by decide) ?_
          refine lr_c cx hI (vp_in_nI (n := 0) (by decide) (by decide)) dL_client_151 ?_
          refine k_top (y := xp v) rfl ?_
          refine lv_iconst (v := 1) cx.1 cx.2.1 dL_client_152 (by decide) ?_
          refine lv_icmp_ne (tgt := 160) cx.1 cx.2.1 dL_client_153 (by decide) (fun c_4 => ?_) (fun c_4 => ?_)
          · refine lv_iconst (v := 0) cx.1 cx.2.1 dL_client_160 (by decide) ?_
            refine lv_iadd cx.1 cx.2.1 dL_client_161 ?_
            refine ls_c6 cx hI dL_client_162 (fun H locs hI => ?_)
            refine lv_iload cx.1 cx.2.1 dL_client_163 (lv_at hl 0 rfl) ?_
            refine lv_iload cx.1 cx.2.1 dL_client_165 (lv_at hl 1 rfl) ?_
            refine lv_icmp_ne (tgt := 197) cx.1 cx.2.1 dL_client_167 (by decide) (fun h9 => absurd (by decide) h9) (fun _ => ?_)
            refine lv_iload cx.1 cx.2.1 dL_client_170 (lv_at hl 1 rfl) ?_
            refine lv_if_eq (tgt := 184) cx.1 cx.2.1 dL_client_172 (by decide) (fun _ => ?_) (fun h9 => absurd (by decide) h9)
            refine lv_aload_n cx.1 cx.2.1 dL_client_184 rfl (lv_at hl 8 rfl) ?_
            refine lc_i 0 cx (hl.1.trans hml.symm) (kX0_shadowRows l D ca ad (xRekey v (nI i) (nI j))) hI wk_171 wk_168 wk_169 wk_170 ⟨rfl, by decide +kernel⟩ rfl ⟨rfl, rfl⟩ ⟨Nat.le_of_ble_eq_true rfl, Nat.le_of_ble_eq_true rfl⟩ (Nat.le_of_ble_eq_true rfl) dL_client_185 ⟨Nat.le_of_ble_eq_true rfl, Nat.le_of_ble_eq_true rfl⟩ rfl (fun H locs hI => ?_)
            refine lv_iload cx.1 cx.2.1 dL_client_188 (lv_at hl 5 rfl) ?_
            refine lv_icmp_ne (tgt := 197) cx.1 cx.2.1 dL_client_190 (by decide) (fun h9 => absurd (rows_k hX hi hj c_1 (zI_rekey h (by omega) hi hj (zR_of hi (hA i hi) (seen_old c_2))) c_2 c_3) h9) (fun _ => ?_)
            refine lv_iconst (v := 1) cx.1 cx.2.1 dL_client_193 (by decide) ?_
            refine lv_goto (tgt := 198) cx.1 cx.2.1 dL_client_194 (by decide) ?_
            exact ke_g (lw ad oa cb ca (xRekey v (nI i) (nI j)) (upd (upd (lO v) j ((lO v) i)) i (-1)) (lK (xp v) (xt v) (xq v) (xk v) (xl v) (xm v) ((xc v) + 0)) []) [] cx hr hlk hI (Nat.le_of_ble_eq_true rfl) (Nat.le_of_ble_eq_true rfl) dL_client_198 rfl rfl ⟨_, (zI_rekey h (by omega) hi hj (zR_of hi (hA i hi) (seen_old c_2))), lw_eq (lO_k hi hj (seen_old c_2)) (lC_k0 c_4 _ _)⟩
          · refine lv_iconst (v := 2) cx.1 cx.2.1 dL_client_156 (by decide) ?_
            refine lv_goto (tgt := 161) cx.1 cx.2.1 dL_client_157 (by decide) ?_
            refine lv_iadd cx.1 cx.2.1 dL_client_161 ?_
            refine ls_c6 cx hI dL_client_162 (fun H locs hI => ?_)
            refine lv_iload cx.1 cx.2.1 dL_client_163 (lv_at hl 0 rfl) ?_
            refine lv_iload cx.1 cx.2.1 dL_client_165 (lv_at hl 1 rfl) ?_
            refine lv_icmp_ne (tgt := 197) cx.1 cx.2.1 dL_client_167 (by decide) (fun h9 => absurd (by decide) h9) (fun _ => ?_)
            refine lv_iload cx.1 cx.2.1 dL_client_170 (lv_at hl 1 rfl) ?_
            refine lv_if_eq (tgt := 184) cx.1 cx.2.1 dL_client_172 (by decide) (fun _ => ?_) (fun h9 => absurd (by decide) h9)
            refine lv_aload_n cx.1 cx.2.1 dL_client_184 rfl (lv_at hl 8 rfl) ?_
            refine lc_i 0 cx (hl.1.trans hml.symm) (kX0_shadowRows l D ca ad (xRekey v (nI i) (nI j))) hI wk_171 wk_168 wk_169 wk_170 ⟨rfl, by decide +kernel⟩ rfl ⟨rfl, rfl⟩ ⟨Nat.le_of_ble_eq_true rfl, Nat.le_of_ble_eq_true rfl⟩ (Nat.le_of_ble_eq_true rfl) dL_client_185 ⟨Nat.le_of_ble_eq_true rfl, Nat.le_of_ble_eq_true rfl⟩ rfl (fun H locs hI => ?_)
            refine lv_iload cx.1 cx.2.1 dL_client_188 (lv_at hl 5 rfl) ?_
            refine lv_icmp_ne (tgt := 197) cx.1 cx.2.1 dL_client_190 (by decide) (fun h9 => absurd (rows_k hX hi hj c_1 (zI_rekey h (by omega) hi hj (zR_of hi (hA i hi) (seen_old c_2))) c_2 c_3) h9) (fun _ => ?_)
            refine lv_iconst (v := 1) cx.1 cx.2.1 dL_client_193 (by decide) ?_
            refine lv_goto (tgt := 198) cx.1 cx.2.1 dL_client_194 (by decide) ?_
            exact ke_g (lw ad oa cb ca (xRekey v (nI i) (nI j)) (upd (upd (lO v) j ((lO v) i)) i (-1)) (lK (xp v) (xt v) (xq v) (xk v) (xl v) (xm v) ((xc v) + 2)) []) [] cx hr hlk hI (Nat.le_of_ble_eq_true rfl) (Nat.le_of_ble_eq_true rfl) dL_client_198 rfl rfl ⟨_, (zI_rekey h (by omega) hi hj (zR_of hi (hA i hi) (seen_old c_2))), lw_eq (lO_k hi hj (seen_old c_2)) (lC_k1 c_4 (by have := hX.2.1.1; omega) hX.2.1.2.1 _ _)⟩
        · refine lv_bipush (v := (-8)) cx.1 cx.2.1 dL_client_104 (by decide) ?_
          refine lv_goto (tgt := 110) cx.1 cx.2.1 dL_client_106 (by decide) ?_
          refine lv_istore (lv' := [(13, .int (-8)), (12, .int (b2i (xSeen v (nI j)))), (11, .int (nI j)), (10, .int (if xp v = 0 then 0 else xBehinds v 40)), (9, .int (xShRows v 40)), (8, .int (b2i (xCbw v (nI x) (nI y)))), (7, .int (b2i (xSeen v (nI i)))), (0, .ref (ad 0)), (1, .int 2), (2, .int (nI i)), (3, .int (nI x)), (4, .int (nI y)), (5, .ref oa), (6, .ref cb)]) cx.1 cx.2.1 dL_client_110 hl (by decide) rfl (fun ls hl => ?_)
          refine lv_aload_n cx.1 cx.2.1 dL_client_112 rfl (lv_at hl 7 rfl) ?_
          refine lv_iconst (v := 2) cx.1 cx.2.1 dL_client_113 (by decide) ?_
          refine lv_iload_n cx.1 cx.2.1 dL_client_114 rfl (lv_at hl 9 rfl) ?_
          refine lv_iload cx.1 cx.2.1 dL_client_115 (lv_at hl 2 rfl) ?_
          refine lv_iconst (v := 0) cx.1 cx.2.1 dL_client_117 (by decide) ?_
          refine lc_h 5 cx hE (hl.1.trans hml.symm) (CA.f4 (kL_asks2 l D ca ad v (nI i) (nI j) 0 h0 (frek_n hi hj) hlS) (frek_4 hi hj c_1 c_2 c_3)) hI wk_213 wk_211 wk_212 wk_0 ⟨by decide, by decide, by decide +kernel⟩ rfl ⟨rfl, rfl⟩ ⟨Nat.le_of_ble_eq_true rfl, Nat.le_of_ble_eq_true rfl⟩ (Nat.le_of_ble_eq_true rfl) dL_client_118 ⟨Nat.le_of_ble_eq_true rfl, Nat.le_of_ble_eq_true rfl⟩ rfl (fun H locs hI => ?_)
          refine lv_istore (lv' := [(14, .int (-8)), (13, .int (-8)), (12, .int (b2i (xSeen v (nI j)))), (11, .int (nI j)), (10, .int (if xp v = 0 then 0 else xBehinds v 40)), (9, .int (xShRows v 40)), (8, .int (b2i (xCbw v (nI x) (nI y)))), (7, .int (b2i (xSeen v (nI i)))), (0, .ref (ad 0)), (1, .int 2), (2, .int (nI i)), (3, .int (nI x)), (4, .int (nI y)), (5, .ref oa), (6, .ref cb)]) cx.1 cx.2.1 dL_client_121 hl (by decide) rfl (fun ls hl => ?_)
          refine lv_iload cx.1 cx.2.1 dL_client_123 (lv_at hl 1 rfl) ?_
          refine lv_if_ne (tgt := 163) cx.1 cx.2.1 dL_client_125 (by decide) (fun _ => ?_) (fun h9 => absurd h9 (by decide))
          refine lv_iload cx.1 cx.2.1 dL_client_163 (lv_at hl 0 rfl) ?_
          refine lv_iload cx.1 cx.2.1 dL_client_165 (lv_at hl 1 rfl) ?_
          refine lv_icmp_ne (tgt := 197) cx.1 cx.2.1 dL_client_167 (by decide) (fun h9 => absurd (by decide) h9) (fun _ => ?_)
          refine lv_iload cx.1 cx.2.1 dL_client_170 (lv_at hl 1 rfl) ?_
          refine lv_if_eq (tgt := 184) cx.1 cx.2.1 dL_client_172 (by decide) (fun h9 => absurd h9 (by decide)) (fun _ => ?_)
          refine lv_aload_n cx.1 cx.2.1 dL_client_175 rfl (lv_at hl 8 rfl) ?_
          refine lc_i 0 cx (hl.1.trans hml.symm) (kX0_behind l D ca ad v) hI wk_179 wk_176 wk_177 wk_178 ⟨rfl, by decide +kernel⟩ rfl ⟨rfl, rfl⟩ ⟨Nat.le_of_ble_eq_true rfl, Nat.le_of_ble_eq_true rfl⟩ (Nat.le_of_ble_eq_true rfl) dL_client_176 ⟨Nat.le_of_ble_eq_true rfl, Nat.le_of_ble_eq_true rfl⟩ rfl (fun H locs hI => ?_)
          refine lv_iload cx.1 cx.2.1 dL_client_179 (lv_at hl 4 rfl) ?_
          refine lv_icmp_ne (tgt := 197) cx.1 cx.2.1 dL_client_181 (by decide) (fun h9 => absurd rfl h9) (fun _ => ?_)
          refine lv_aload_n cx.1 cx.2.1 dL_client_184 rfl (lv_at hl 8 rfl) ?_
          refine lc_i 0 cx (hl.1.trans hml.symm) (kX0_shadowRows l D ca ad v) hI wk_171 wk_168 wk_169 wk_170 ⟨rfl, by decide +kernel⟩ rfl ⟨rfl, rfl⟩ ⟨Nat.le_of_ble_eq_true rfl, Nat.le_of_ble_eq_true rfl⟩ (Nat.le_of_ble_eq_true rfl) dL_client_185 ⟨Nat.le_of_ble_eq_true rfl, Nat.le_of_ble_eq_true rfl⟩ rfl (fun H locs hI => ?_)
          refine lv_iload cx.1 cx.2.1 dL_client_188 (lv_at hl 5 rfl) ?_
          refine lv_icmp_ne (tgt := 197) cx.1 cx.2.1 dL_client_190 (by decide) (fun h9 => absurd rfl h9) (fun _ => ?_)
          refine lv_iconst (v := 1) cx.1 cx.2.1 dL_client_193 (by decide) ?_
          refine lv_goto (tgt := 198) cx.1 cx.2.1 dL_client_194 (by decide) ?_
          exact ke_g (lw ad oa cb ca v (lO v) (lK (xp v) (xt v) (xq v) (xk v) (xl v) (xm v) (xc v)) []) [] cx hr hlk hI (Nat.le_of_ble_eq_true rfl) (Nat.le_of_ble_eq_true rfl) dL_client_198 rfl rfl ⟨v, (h.up (by omega)), lw_eq rfl rfl⟩
      · refine lv_bipush (v := (-10)) cx.1 cx.2.1 dL_client_94 (by decide) ?_
        refine lv_goto (tgt := 110) cx.1 cx.2.1 dL_client_96 (by decide) ?_
        refine lv_istore (lv' := [(13, .int (-10)), (12, .int (b2i (xSeen v (nI j)))), (11, .int (nI j)), (10, .int (if xp v = 0 then 0 else xBehinds v 40)), (9, .int (xShRows v 40)), (8, .int (b2i (xCbw v (nI x) (nI y)))), (7, .int (b2i (xSeen v (nI i)))), (0, .ref (ad 0)), (1, .int 2), (2, .int (nI i)), (3, .int (nI x)), (4, .int (nI y)), (5, .ref oa), (6, .ref cb)]) cx.1 cx.2.1 dL_client_110 hl (by decide) rfl (fun ls hl => ?_)
        refine lv_aload_n cx.1 cx.2.1 dL_client_112 rfl (lv_at hl 7 rfl) ?_
        refine lv_iconst (v := 2) cx.1 cx.2.1 dL_client_113 (by decide) ?_
        refine lv_iload_n cx.1 cx.2.1 dL_client_114 rfl (lv_at hl 9 rfl) ?_
        refine lv_iload cx.1 cx.2.1 dL_client_115 (lv_at hl 2 rfl) ?_
        refine lv_iconst (v := 0) cx.1 cx.2.1 dL_client_117 (by decide) ?_
        refine lc_h 5 cx hE (hl.1.trans hml.symm) (CA.f3 (kL_asks2 l D ca ad v (nI i) (nI j) 0 h0 (frek_n hi hj) hlS) (frek_3 hi hj c_1 c_2)) hI wk_213 wk_211 wk_212 wk_0 ⟨by decide, by decide, by decide +kernel⟩ rfl ⟨rfl, rfl⟩ ⟨Nat.le_of_ble_eq_true rfl, Nat.le_of_ble_eq_true rfl⟩ (Nat.le_of_ble_eq_true rfl) dL_client_118 ⟨Nat.le_of_ble_eq_true rfl, Nat.le_of_ble_eq_true rfl⟩ rfl (fun H locs hI => ?_)
        refine lv_istore (lv' := [(14, .int (-10)), (13, .int (-10)), (12, .int (b2i (xSeen v (nI j)))), (11, .int (nI j)), (10, .int (if xp v = 0 then 0 else xBehinds v 40)), (9, .int (xShRows v 40)), (8, .int (b2i (xCbw v (nI x) (nI y)))), (7, .int (b2i (xSeen v (nI i)))), (0, .ref (ad 0)), (1, .int 2), (2, .int (nI i)), (3, .int (nI x)), (4, .int (nI y)), (5, .ref oa), (6, .ref cb)]) cx.1 cx.2.1 dL_client_121 hl (by decide) rfl (fun ls hl => ?_)
        refine lv_iload cx.1 cx.2.1 dL_client_123 (lv_at hl 1 rfl) ?_
        refine lv_if_ne (tgt := 163) cx.1 cx.2.1 dL_client_125 (by decide) (fun _ => ?_) (fun h9 => absurd h9 (by decide))
        refine lv_iload cx.1 cx.2.1 dL_client_163 (lv_at hl 0 rfl) ?_
        refine lv_iload cx.1 cx.2.1 dL_client_165 (lv_at hl 1 rfl) ?_
        refine lv_icmp_ne (tgt := 197) cx.1 cx.2.1 dL_client_167 (by decide) (fun h9 => absurd (by decide) h9) (fun _ => ?_)
        refine lv_iload cx.1 cx.2.1 dL_client_170 (lv_at hl 1 rfl) ?_
        refine lv_if_eq (tgt := 184) cx.1 cx.2.1 dL_client_172 (by decide) (fun h9 => absurd h9 (by decide)) (fun _ => ?_)
        refine lv_aload_n cx.1 cx.2.1 dL_client_175 rfl (lv_at hl 8 rfl) ?_
        refine lc_i 0 cx (hl.1.trans hml.symm) (kX0_behind l D ca ad v) hI wk_179 wk_176 wk_177 wk_178 ⟨rfl, by decide +kernel⟩ rfl ⟨rfl, rfl⟩ ⟨Nat.le_of_ble_eq_true rfl, Nat.le_of_ble_eq_true rfl⟩ (Nat.le_of_ble_eq_true rfl) dL_client_176 ⟨Nat.le_of_ble_eq_true rfl, Nat.le_of_ble_eq_true rfl⟩ rfl (fun H locs hI => ?_)
        refine lv_iload cx.1 cx.2.1 dL_client_179 (lv_at hl 4 rfl) ?_
        refine lv_icmp_ne (tgt := 197) cx.1 cx.2.1 dL_client_181 (by decide) (fun h9 => absurd rfl h9) (fun _ => ?_)
        refine lv_aload_n cx.1 cx.2.1 dL_client_184 rfl (lv_at hl 8 rfl) ?_
        refine lc_i 0 cx (hl.1.trans hml.symm) (kX0_shadowRows l D ca ad v) hI wk_171 wk_168 wk_169 wk_170 ⟨rfl, by decide +kernel⟩ rfl ⟨rfl, rfl⟩ ⟨Nat.le_of_ble_eq_true rfl, Nat.le_of_ble_eq_true rfl⟩ (Nat.le_of_ble_eq_true rfl) dL_client_185 ⟨Nat.le_of_ble_eq_true rfl, Nat.le_of_ble_eq_true rfl⟩ rfl (fun H locs hI => ?_)
        refine lv_iload cx.1 cx.2.1 dL_client_188 (lv_at hl 5 rfl) ?_
        refine lv_icmp_ne (tgt := 197) cx.1 cx.2.1 dL_client_190 (by decide) (fun h9 => absurd rfl h9) (fun _ => ?_)
        refine lv_iconst (v := 1) cx.1 cx.2.1 dL_client_193 (by decide) ?_
        refine lv_goto (tgt := 198) cx.1 cx.2.1 dL_client_194 (by decide) ?_
        exact ke_g (lw ad oa cb ca v (lO v) (lK (xp v) (xt v) (xq v) (xk v) (xl v) (xm v) (xc v)) []) [] cx hr hlk hI (Nat.le_of_ble_eq_true rfl) (Nat.le_of_ble_eq_true rfl) dL_client_198 rfl rfl ⟨v, (h.up (by omega)), lw_eq rfl rfl⟩
    · refine lv_bipush (v := (-9)) cx.1 cx.2.1 dL_client_84 (by decide) ?_
      refine lv_goto (tgt := 110) cx.1 cx.2.1 dL_client_86 (by decide) ?_
      refine lv_istore (lv' := [(13, .int (-9)), (12, .int (b2i (xSeen v (nI j)))), (11, .int (nI j)), (10, .int (if xp v = 0 then 0 else xBehinds v 40)), (9, .int (xShRows v 40)), (8, .int (b2i (xCbw v (nI x) (nI y)))), (7, .int (b2i (xSeen v (nI i)))), (0, .ref (ad 0)), (1, .int 2), (2, .int (nI i)), (3, .int (nI x)), (4, .int (nI y)), (5, .ref oa), (6, .ref cb)]) cx.1 cx.2.1 dL_client_110 hl (by decide) rfl (fun ls hl => ?_)
      refine lv_aload_n cx.1 cx.2.1 dL_client_112 rfl (lv_at hl 7 rfl) ?_
      refine lv_iconst (v := 2) cx.1 cx.2.1 dL_client_113 (by decide) ?_
      refine lv_iload_n cx.1 cx.2.1 dL_client_114 rfl (lv_at hl 9 rfl) ?_
      refine lv_iload cx.1 cx.2.1 dL_client_115 (lv_at hl 2 rfl) ?_
      refine lv_iconst (v := 0) cx.1 cx.2.1 dL_client_117 (by decide) ?_
      refine lc_h 5 cx hE (hl.1.trans hml.symm) (CA.f2 (kL_asks2 l D ca ad v (nI i) (nI j) 0 h0 (frek_n hi hj) hlS) (frek_2 hi hj c_1)) hI wk_213 wk_211 wk_212 wk_0 ⟨by decide, by decide, by decide +kernel⟩ rfl ⟨rfl, rfl⟩ ⟨Nat.le_of_ble_eq_true rfl, Nat.le_of_ble_eq_true rfl⟩ (Nat.le_of_ble_eq_true rfl) dL_client_118 ⟨Nat.le_of_ble_eq_true rfl, Nat.le_of_ble_eq_true rfl⟩ rfl (fun H locs hI => ?_)
      refine lv_istore (lv' := [(14, .int (-9)), (13, .int (-9)), (12, .int (b2i (xSeen v (nI j)))), (11, .int (nI j)), (10, .int (if xp v = 0 then 0 else xBehinds v 40)), (9, .int (xShRows v 40)), (8, .int (b2i (xCbw v (nI x) (nI y)))), (7, .int (b2i (xSeen v (nI i)))), (0, .ref (ad 0)), (1, .int 2), (2, .int (nI i)), (3, .int (nI x)), (4, .int (nI y)), (5, .ref oa), (6, .ref cb)]) cx.1 cx.2.1 dL_client_121 hl (by decide) rfl (fun ls hl => ?_)
      refine lv_iload cx.1 cx.2.1 dL_client_123 (lv_at hl 1 rfl) ?_
      refine lv_if_ne (tgt := 163) cx.1 cx.2.1 dL_client_125 (by decide) (fun _ => ?_) (fun h9 => absurd h9 (by decide))
      refine lv_iload cx.1 cx.2.1 dL_client_163 (lv_at hl 0 rfl) ?_
      refine lv_iload cx.1 cx.2.1 dL_client_165 (lv_at hl 1 rfl) ?_
      refine lv_icmp_ne (tgt := 197) cx.1 cx.2.1 dL_client_167 (by decide) (fun h9 => absurd (by decide) h9) (fun _ => ?_)
      refine lv_iload cx.1 cx.2.1 dL_client_170 (lv_at hl 1 rfl) ?_
      refine lv_if_eq (tgt := 184) cx.1 cx.2.1 dL_client_172 (by decide) (fun h9 => absurd h9 (by decide)) (fun _ => ?_)
      refine lv_aload_n cx.1 cx.2.1 dL_client_175 rfl (lv_at hl 8 rfl) ?_
      refine lc_i 0 cx (hl.1.trans hml.symm) (kX0_behind l D ca ad v) hI wk_179 wk_176 wk_177 wk_178 ⟨rfl, by decide +kernel⟩ rfl ⟨rfl, rfl⟩ ⟨Nat.le_of_ble_eq_true rfl, Nat.le_of_ble_eq_true rfl⟩ (Nat.le_of_ble_eq_true rfl) dL_client_176 ⟨Nat.le_of_ble_eq_true rfl, Nat.le_of_ble_eq_true rfl⟩ rfl (fun H locs hI => ?_)
      refine lv_iload cx.1 cx.2.1 dL_client_179 (lv_at hl 4 rfl) ?_
      refine lv_icmp_ne (tgt := 197) cx.1 cx.2.1 dL_client_181 (by decide) (fun h9 => absurd rfl h9) (fun _ => ?_)
      refine lv_aload_n cx.1 cx.2.1 dL_client_184 rfl (lv_at hl 8 rfl) ?_
      refine lc_i 0 cx (hl.1.trans hml.symm) (kX0_shadowRows l D ca ad v) hI wk_171 wk_168 wk_169 wk_170 ⟨rfl, by decide +kernel⟩ rfl ⟨rfl, rfl⟩ ⟨Nat.le_of_ble_eq_true rfl, Nat.le_of_ble_eq_true rfl⟩ (Nat.le_of_ble_eq_true rfl) dL_client_185 ⟨Nat.le_of_ble_eq_true rfl, Nat.le_of_ble_eq_true rfl⟩ rfl (fun H locs hI => ?_)
      refine lv_iload cx.1 cx.2.1 dL_client_188 (lv_at hl 5 rfl) ?_
      refine lv_icmp_ne (tgt := 197) cx.1 cx.2.1 dL_client_190 (by decide) (fun h9 => absurd rfl h9) (fun _ => ?_)
      refine lv_iconst (v := 1) cx.1 cx.2.1 dL_client_193 (by decide) ?_
      refine lv_goto (tgt := 198) cx.1 cx.2.1 dL_client_194 (by decide) ?_
      exact ke_g (lw ad oa cb ca v (lO v) (lK (xp v) (xt v) (xq v) (xk v) (xl v) (xm v) (xc v)) []) [] cx hr hlk hI (Nat.le_of_ble_eq_true rfl) (Nat.le_of_ble_eq_true rfl) dL_client_198 rfl rfl ⟨v, (h.up (by omega)), lw_eq rfl rfl⟩
  ·
    refine lv_icmp_ne (tgt := 36) cx.1 cx.2.1 dL_client_16 (by decide) (fun c_5 => ?_) (fun c_5 => ?_)
    · refine lv_iconst (v := 1) cx.1 cx.2.1 dL_client_36 (by decide) ?_
      refine lv_goto (tgt := 41) cx.1 cx.2.1 dL_client_37 (by decide) ?_
      exact k_top (by first | exact cbw_t hx hy c_5 | exact cbw_p hx hy c_5) (hj41 _ _ hI)
    · refine lv_aload cx.1 cx.2.1 dL_client_19 (lv_at hl 7 rfl) ?_
      refine lv_sipush (v := 1000) cx.1 cx.2.1 dL_client_21 (by decide) ?_
      refine lv_iload_n cx.1 cx.2.1 dL_client_24 rfl (lv_at hl 4 rfl) ?_
      refine lv_imul cx.1 cx.2.1 dL_client_25 ?_
      refine lv_iload cx.1 cx.2.1 dL_client_26 (lv_at hl 5 rfl) ?_
      refine lv_iadd cx.1 cx.2.1 dL_client_28 ?_
      refine k_top (y := nI (1000 * x + y)) (row_n x y) ?_
      refine lv_iconst (v := 0) cx.1 cx.2.1 dL_client_29 (by decide) ?_
      refine lc_c 3 cx (hl.1.trans hml.symm) (kL_altered l D ca cb (lK (xp v) (xt v) (xq v) (xk v) (xl v) (xm v) (xc v)) (nI (1000 * x + y)) 0) hI wk_167 wk_165 wk_166 wk_0 ⟨by decide, by decide, by decide +kernel⟩ rfl ⟨rfl, rfl⟩ ⟨Nat.le_of_ble_eq_true rfl, Nat.le_of_ble_eq_true rfl⟩ (Nat.le_of_ble_eq_true rfl) dL_client_30 ⟨Nat.le_of_ble_eq_true rfl, Nat.le_of_ble_eq_true rfl⟩ rfl (fun H locs hI => ?_)
      refine lv_if_lt (tgt := 40) cx.1 cx.2.1 dL_client_33 (by decide) (fun c_6 => ?_) (fun c_6 => ?_)
      · refine lv_iconst (v := 0) cx.1 cx.2.1 dL_client_40 (by decide) ?_
        exact k_top (cbw_n hx hy hX.1.2.1 c_5 c_6) (hj41 _ _ hI)
      · refine lv_iconst (v := 1) cx.1 cx.2.1 dL_client_36 (by decide) ?_
        refine lv_goto (tgt := 41) cx.1 cx.2.1 dL_client_37 (by decide) ?_
        exact k_top (by first | exact cbw_t hx hy c_6 | exact cbw_p hx hy c_6) (hj41 _ _ hI)
set_option maxHeartbeats 4000000 in
set_option maxRecDepth 100000 in
theorem kL_client3 (l : Launch) (D : va_G) (ca : Nat → ClassId) (ad : Nat → Nat) (oa cb : Nat) {v : XS} {n i x y : Nat} (h : zI n v) (hn : n + 2 ≤ 1000) (hi : i < 40) (hx : x ≤ 999) (hy : y ≤ 999) (hlS : l.stackTraces = false) : CG l yL_client cL_client 15 (some .boolean) { frames := 9, cells := 1, slots := 6, locals := 201 } D ca (lw ad oa cb ca v (lO v) (lC v) []) [.ref (ad 0), .int 3, .int (nI i), .int (nI x), .int (nI y), .ref oa, .ref cb] (some (.int 1)) (LW (n + 2) ad oa cb ca) 1 6 := by
  refine CG.of (by decide) (Nat.le_of_ble_eq_true rfl) ?_
  intro p e s m below meth c0 A ls cx hml hr hlk hE hI hl
  have hl : lv_has ls 15 [(0, .ref (ad 0)), (1, .int 3), (2, .int (nI i)), (3, .int (nI x)), (4, .int (nI y)), (5, .ref oa), (6, .ref cb)] := hl
  obtain ⟨c1, m1, hX⟩ := id h
  have hA : ∀ j, j < 40 → zA v j := fun j hj => (hX.1.1 j hj).1
  have hZ : ∀ j, j < 40 → zS v j := fun j hj => (hX.1.1 j hj).2
  have h0 : ¬ xc v < 0 := by rw [hX.2.1.2.1]; exact nI_pos (by have := hX.2.1.1; omega)
  have hI : KI D A (lw ad oa cb ca v (lO v) (lK (xp v) (xt v) (xq v) (xk v) (xl v) (xm v) (xc v)) []) s.heap s.heap [] := hI
  have hW : zI (n + 1) (xFollow (xPut v (nI i) (-1) (-1)) (nI i)) := zI_write h (by omega) hi (Or.inl rfl)
  refine lv_aload_n cx.1 cx.2.1 dL_client_0 rfl (lv_at hl 0 rfl) ?_
  refine lv_aload cx.1 cx.2.1 dL_client_1 (lv_at hl 5 rfl) ?_
  refine lv_aload cx.1 cx.2.1 dL_client_3 (lv_at hl 6 rfl) ?_
  refine lv_iload_n cx.1 cx.2.1 dL_client_5 rfl (lv_at hl 2 rfl) ?_
  refine lc_w 4 cx (hl.1.trans hml.symm) (kL_isSeen l D ca ad oa cb v (lO v) (xp v) (xt v) (xq v) (xk v) (xl v) (xm v) (xc v) hi (hA i hi) (hZ i hi) rfl rfl) hI wk_82 wk_80 wk_81 wk_0 ⟨by decide, by decide, by decide +kernel⟩ rfl ⟨rfl, rfl⟩ ⟨Nat.le_of_ble_eq_true rfl, Nat.le_of_ble_eq_true rfl⟩ (Nat.le_of_ble_eq_true rfl) dL_client_6 ⟨Nat.le_of_ble_eq_true rfl, Nat.le_of_ble_eq_true rfl⟩ rfl (fun H locs hI => ?_)
  refine lv_istore (lv' := [(7, .int (b2i (xSeen v (nI i)))), (0, .ref (ad 0)), (1, .int 3), (2, .int (nI i)), (3, .int (nI x)), (4, .int (nI y)), (5, .ref oa), (6, .ref cb)]) cx.1 cx.2.1 dL_client_9 hl (by decide) rfl (fun ls hl => ?_)
  refine lv_aload cx.1 cx.2.1 dL_client_11 (lv_at hl 7 rfl) ?_
  refine lv_iconst (v := 0) cx.1 cx.2.1 dL_client_13 (by decide) ?_
  refine lr_c cx hI (vp_in_nI (n := 0) (by decide) (by decide)) dL_client_14 ?_
  refine k_top (y := xp v) rfl ?_
  refine lv_iconst (v := 2) cx.1 cx.2.1 dL_client_15 (by decide) ?_
  refine k_join (D := D) (A := A) 41 (lw ad oa cb ca v (lO v) (lK (xp v) (xt v) (xq v) (xk v) (xl v) (xm v) (xc v)) []) [.int (b2i (xCbw v (nI x) (nI y)))] (fun H locs hI => ?_) (fun hj41 => ?_)
  · refine lv_istore (lv' := [(8, .int (b2i (xCbw v (nI x) (nI y)))), (7, .int (b2i (xSeen v (nI i)))), (0, .ref (ad 0)), (1, .int 3), (2, .int (nI i)), (3, .int (nI x)), (4, .int (nI y)), (5, .ref oa), (6, .ref cb)]) cx.1 cx.2.1 dL_client_41 hl (by decide) rfl (fun ls hl => ?_)
    refine lv_aload_n cx.1 cx.2.1 dL_client_43 rfl (lv_at hl 2 rfl) ?_
    refine lc_i 0 cx (hl.1.trans hml.symm) (kX0_shadowRows l D ca ad v) hI wk_171 wk_168 wk_169 wk_170 ⟨rfl, by decide +kernel⟩ rfl ⟨rfl, rfl⟩ ⟨Nat.le_of_ble_eq_true rfl, Nat.le_of_ble_eq_true rfl⟩ (Nat.le_of_ble_eq_true rfl) dL_client_44 ⟨Nat.le_of_ble_eq_true rfl, Nat.le_of_ble_eq_true rfl⟩ rfl (fun H locs hI => ?_)
    refine lv_istore (lv' := [(9, .int (xShRows v 40)), (8, .int (b2i (xCbw v (nI x) (nI y)))), (7, .int (b2i (xSeen v (nI i)))), (0, .ref (ad 0)), (1, .int 3), (2, .int (nI i)), (3, .int (nI x)), (4, .int (nI y)), (5, .ref oa), (6, .ref cb)]) cx.1 cx.2.1 dL_client_47 hl (by decide) rfl (fun ls hl => ?_)
    refine lv_aload_n cx.1 cx.2.1 dL_client_49 rfl (lv_at hl 3 rfl) ?_
    refine lc_i 0 cx (hl.1.trans hml.symm) (kX0_behind l D ca ad v) hI wk_179 wk_176 wk_177 wk_178 ⟨rfl, by decide +kernel⟩ rfl ⟨rfl, rfl⟩ ⟨Nat.le_of_ble_eq_true rfl, Nat.le_of_ble_eq_true rfl⟩ (Nat.le_of_ble_eq_true rfl) dL_client_50 ⟨Nat.le_of_ble_eq_true rfl, Nat.le_of_ble_eq_true rfl⟩ rfl (fun H locs hI => ?_)
    refine lv_istore (lv' := [(10, .int (if xp v = 0 then 0 else xBehinds v 40)), (9, .int (xShRows v 40)), (8, .int (b2i (xCbw v (nI x) (nI y)))), (7, .int (b2i (xSeen v (nI i)))), (0, .ref (ad 0)), (1, .int 3), (2, .int (nI i)), (3, .int (nI x)), (4, .int (nI y)), (5, .ref oa), (6, .ref cb)]) cx.1 cx.2.1 dL_client_53 hl (by decide) rfl (fun ls hl => ?_)
    refine lv_iload_n cx.1 cx.2.1 dL_client_55 rfl (lv_at hl 5 rfl) ?_
    refine lv_iconst (v := 2) cx.1 cx.2.1 dL_client_56 (by decide) ?_
    refine lv_icmp_ne (tgt := 199) cx.1 cx.2.1 dL_client_57 (by decide) (fun _ => ?_) (fun h9 => absurd h9 (by decide))
    refine lv_iload_n cx.1 cx.2.1 dL_client_199 rfl (lv_at hl 5 rfl) ?_
    refine lv_iconst (v := 3) cx.1 cx.2.1 dL_client_200 (by decide) ?_
    refine lv_icmp_ne (tgt := 312) cx.1 cx.2.1 dL_client_201 (by decide) (fun h9 => absurd (by decide) h9) (fun _ => ?_)
    refine lv_aload cx.1 cx.2.1 dL_client_204 (lv_at hl 9 rfl) ?_
    refine lv_iload_n cx.1 cx.2.1 dL_client_206 rfl (lv_at hl 6 rfl) ?_
    refine lr_on cx hI hi dL_client_207 ?_
    refine lv_istore (lv' := [(11, .int ((lO v) i)), (10, .int (if xp v = 0 then 0 else xBehinds v 40)), (9, .int (xShRows v 40)), (8, .int (b2i (xCbw v (nI x) (nI y)))), (7, .int (b2i (xSeen v (nI i)))), (0, .ref (ad 0)), (1, .int 3), (2, .int (nI i)), (3, .int (nI x)), (4, .int (nI y)), (5, .ref oa), (6, .ref cb)]) cx.1 cx.2.1 dL_client_208 hl (by decide) rfl (fun ls hl => ?_)
    rcases bcase (xSeen v (nI i)) with hsn | hsn
    · refine lv_aload_n cx.1 cx.2.1 dL_client_210 rfl (lv_at hl 5 rfl) ?_
      refine lv_iconst (v := 3) cx.1 cx.2.1 dL_client_211 (by decide) ?_
      refine lv_iload_n cx.1 cx.2.1 dL_client_212 rfl (lv_at hl 7 rfl) ?_
      refine lv_iconst (v := 0) cx.1 cx.2.1 dL_client_213 (by decide) ?_
      refine lv_iconst (v := 0) cx.1 cx.2.1 dL_client_214 (by decide) ?_
      refine lc_h 5 cx hE (hl.1.trans hml.symm) (CA.ok (kL_asks3 l D ca ad v (nI i) 0 0 h0 (fdel_n hi) hlS) (fdel_0 hi hsn)) hI wk_213 wk_211 wk_212 wk_0 ⟨by decide, by decide, by decide +kernel⟩ rfl ⟨rfl, rfl⟩ ⟨Nat.le_of_ble_eq_true rfl, Nat.le_of_ble_eq_true rfl⟩ (Nat.le_of_ble_eq_true rfl) dL_client_215 ⟨Nat.le_of_ble_eq_true rfl, Nat.le_of_ble_eq_true rfl⟩ rfl (fun H locs hI => ?_)
      refine lv_istore (lv' := [(12, .int (xRow v (nI i))), (11, .int ((lO v) i)), (10, .int (if xp v = 0 then 0 else xBehinds v 40)), (9, .int (xShRows v 40)), (8, .int (b2i (xCbw v (nI x) (nI y)))), (7, .int (b2i (xSeen v (nI i)))), (0, .ref (ad 0)), (1, .int 3), (2, .int (nI i)), (3, .int (nI x)), (4, .int (nI y)), (5, .ref oa), (6, .ref cb)]) cx.1 cx.2.1 dL_client_218 hl (by decide) rfl (fun ls hl => ?_)
      refine lv_aload cx.1 cx.2.1 dL_client_220 (lv_at hl 11 rfl) ?_
      refine lv_iload_n cx.1 cx.2.1 dL_client_222 rfl (lv_at hl 8 rfl) ?_
      refine lv_iload cx.1 cx.2.1 dL_client_223 (lv_at hl 5 rfl) ?_
      refine kb_eq (tgt := 232) cx dL_client_225 (by decide) (fun h9 => (Bool.noConfusion ((hsn).symm.trans h9))) (fun _ => ?_)
      refine lv_iconst (v := (-1)) cx.1 cx.2.1 dL_client_228 (by decide) ?_
      refine lv_goto (tgt := 234) cx.1 cx.2.1 dL_client_229 (by decide) ?_
      refine ls_on cx hI hi dL_client_234 (fun H locs hI => ?_)
      refine lv_aload cx.1 cx.2.1 dL_client_235 (lv_at hl 12 rfl) ?_
      refine lv_bipush (v := 6) cx.1 cx.2.1 dL_client_237 (by decide) ?_
      refine lv_dup2_11 cx.1 cx.2.1 dL_client_239 rfl rfl ?_
      refine lr_c cx hI (vp_in_nI (n := 6) (by decide) (by decide)) dL_client_240 ?_
      refine k_top (y := xc v) rfl ?_
      refine lv_iload cx.1 cx.2.1 dL_client_241 (lv_at hl 5 rfl) ?_
      refine kb_eq (tgt := 258) cx dL_client_243 (by decide) (fun h9 => (Bool.noConfusion ((hsn).symm.trans h9))) (fun _ => ?_)
      refine lv_aload cx.1 cx.2.1 dL_client_246 (lv_at hl 12 rfl) ?_
      refine lv_iconst (v := 0) cx.1 cx.2.1 dL_client_248 (by decide) ?_
      refine lr_c cx hI (vp_in_nI (n := 0) (by decide) (by decide)) dL_client_249 ?_
      refine k_top (y := xp v) rfl ?_
      refine lv_iconst (v := 1) cx.1 cx.2.1 dL_client_250 (by decide) ?_
      refine lv_icmp_ne (tgt := 258) cx.1 cx.2.1 dL_client_251 (by decide) (fun c_1 => ?_) (fun c_1 => ?_)
      · refine lv_iconst (v := 0) cx.1 cx.2.1 dL_client_258 (by decide) ?_
        refine lv_iadd cx.1 cx.2.1 dL_client_259 ?_
        refine ls_c6 cx hI dL_client_260 (fun H locs hI => ?_)
        refine lv_iload cx.1 cx.2.1 dL_client_261 (lv_at hl 0 rfl) ?_
        refine lv_iload cx.1 cx.2.1 dL_client_263 (lv_at hl 5 rfl) ?_
        refine kb_eq (tgt := 273) cx dL_client_265 (by decide) (fun h9 => (Bool.noConfusion ((hsn).symm.trans h9))) (fun _ => ?_)
        refine lv_iload cx.1 cx.2.1 dL_client_268 (lv_at hl 1 rfl) ?_
        refine lv_goto (tgt := 275) cx.1 cx.2.1 dL_client_270 (by decide) ?_
        refine lv_icmp_ne (tgt := 310) cx.1 cx.2.1 dL_client_275 (by decide) (fun h9 => absurd (lO_row hi (seen_old hsn)).symm h9) (fun _ => ?_)
        refine lv_aload_n cx.1 cx.2.1 dL_client_278 rfl (lv_at hl 6 rfl) ?_
        refine lc_i 0 cx (hl.1.trans hml.symm) (kX0_shadowRows l D ca ad (xFollow (xPut v (nI i) (-1) (-1)) (nI i))) hI wk_171 wk_168 wk_169 wk_170 ⟨rfl, by decide +kernel⟩ rfl ⟨rfl, rfl⟩ ⟨Nat.le_of_ble_eq_true rfl, Nat.le_of_ble_eq_true rfl⟩ (Nat.le_of_ble_eq_true rfl) dL_client_279 ⟨Nat.le_of_ble_eq_true rfl, Nat.le_of_ble_eq_true rfl⟩ rfl (fun H locs hI => ?_)
        refine lv_iload cx.1 cx.2.1 dL_client_282 (lv_at hl 3 rfl) ?_
        refine lv_iload cx.1 cx.2.1 dL_client_284 (lv_at hl 5 rfl) ?_
        refine kb_eq (tgt := 301) cx dL_client_286 (by decide) (fun h9 => (Bool.noConfusion ((hsn).symm.trans h9))) (fun _ => ?_)
        refine lv_aload cx.1 cx.2.1 dL_client_289 (lv_at hl 12 rfl) ?_
        refine lv_iconst (v := 0) cx.1 cx.2.1 dL_client_291 (by decide) ?_
        refine lr_c cx hI (vp_in_nI (n := 0) (by decide) (by decide)) dL_client_292 ?_
        refine k_top (y := xp v) rfl ?_
        refine lv_iconst (v := 2) cx.1 cx.2.1 dL_client_293 (by decide) ?_
        refine lv_icmp_ne (tgt := 301) cx.1 cx.2.1 dL_client_294 (by decide) (fun c_2 => ?_) (fun c_2 => ?_)
        · refine lv_iconst (v := 0) cx.1 cx.2.1 dL_client_301 (by decide) ?_
          refine lv_isub cx.1 cx.2.1 dL_client_302 ?_
          refine lv_icmp_ne (tgt := 310) cx.1 cx.2.1 dL_client_303 (by decide) (fun h9 => absurd ((rows_0 c_2 _ _ _ _).trans (sub0 _).symm) h9) (fun _ => ?_)
          refine lv_iconst (v := 1) cx.1 cx.2.1 dL_client_306 (by decide) ?_
          refine lv_goto (tgt := 311) cx.1 cx.2.1 dL_client_307 (by decide) ?_
          exact ke_g (lw ad oa cb ca (xFollow (xPut v (nI i) (-1) (-1)) (nI i)) (upd (lO v) i (-1)) (lK (xp v) (xt v) (xq v) (xk v) (xl v) (xm v) ((xc v) + 0)) []) [] cx hr hlk hI (Nat.le_of_ble_eq_true rfl) (Nat.le_of_ble_eq_true rfl) dL_client_311 rfl rfl ⟨_, hW.up (by omega), lw_eq (lO_d hi _ _) (lC_w0 c_1 _ _ _ _)⟩
        · refine lv_iconst (v := 1) cx.1 cx.2.1 dL_client_297 (by decide) ?_
          refine lv_goto (tgt := 302) cx.1 cx.2.1 dL_client_298 (by decide) ?_
          refine lv_isub cx.1 cx.2.1 dL_client_302 ?_
          refine lv_icmp_ne (tgt := 310) cx.1 cx.2.1 dL_client_303 (by decide) (fun h9 => absurd (rows_del hX c_2 hi hW hsn) h9) (fun _ => ?_)
          refine lv_iconst (v := 1) cx.1 cx.2.1 dL_client_306 (by decide) ?_
          refine lv_goto (tgt := 311) cx.1 cx.2.1 dL_client_307 (by decide) ?_
          exact ke_g (lw ad oa cb ca (xFollow (xPut v (nI i) (-1) (-1)) (nI i)) (upd (lO v) i (-1)) (lK (xp v) (xt v) (xq v) (xk v) (xl v) (xm v) ((xc v) + 0)) []) [] cx hr hlk hI (Nat.le_of_ble_eq_true rfl) (Nat.le_of_ble_eq_true rfl) dL_client_311 rfl rfl ⟨_, hW.up (by omega), lw_eq (lO_d hi _ _) (lC_w0 c_1 _ _ _ _)⟩
      · refine lv_iconst (v := 1) cx.1 cx.2.1 dL_client_254 (by decide) ?_
        refine lv_goto (tgt := 259) cx.1 cx.2.1 dL_client_255 (by decide) ?_
        refine lv_iadd cx.1 cx.2.1 dL_client_259 ?_
        refine ls_c6 cx hI dL_client_260 (fun H locs hI => ?_)
        refine lv_iload cx.1 cx.2.1 dL_client_261 (lv_at hl 0 rfl) ?_
        refine lv_iload cx.1 cx.2.1 dL_client_263 (lv_at hl 5 rfl) ?_
        refine kb_eq (tgt := 273) cx dL_client_265 (by decide) (fun h9 => (Bool.noConfusion ((hsn).symm.trans h9))) (fun _ => ?_)
        refine lv_iload cx.1 cx.2.1 dL_client_268 (lv_at hl 1 rfl) ?_
        refine lv_goto (tgt := 275) cx.1 cx.2.1 dL_client_270 (by decide) ?_
        refine lv_icmp_ne (tgt := 310) cx.1 cx.2.1 dL_client_275 (by decide) (fun h9 => absurd (lO_row hi (seen_old hsn)).symm h9) (fun _ => ?_)
        refine lv_aload_n cx.1 cx.2.1 dL_client_278 rfl (lv_at hl 6 rfl) ?_
        refine lc_i 0 cx (hl.1.trans hml.symm) (kX0_shadowRows l D ca ad (xFollow (xPut v (nI i) (-1) (-1)) (nI i))) hI wk_171 wk_168 wk_169 wk_170 ⟨rfl, by decide +kernel⟩ rfl ⟨rfl, rfl⟩ ⟨Nat.le_of_ble_eq_true rfl, Nat.le_of_ble_eq_true rfl⟩ (Nat.le_of_ble_eq_true rfl) dL_client_279 ⟨Nat.le_of_ble_eq_true rfl, Nat.le_of_ble_eq_true rfl⟩ rfl (fun H locs hI => ?_)
        refine lv_iload cx.1 cx.2.1 dL_client_282 (lv_at hl 3 rfl) ?_
        refine lv_iload cx.1 cx.2.1 dL_client_284 (lv_at hl 5 rfl) ?_
        refine kb_eq (tgt := 301) cx dL_client_286 (by decide) (fun h9 => (Bool.noConfusion ((hsn).symm.trans h9))) (fun _ => ?_)
        refine lv_aload cx.1 cx.2.1 dL_client_289 (lv_at hl 12 rfl) ?_
        refine lv_iconst (v := 0) cx.1 cx.2.1 dL_client_291 (by decide) ?_
        refine lr_c cx hI (vp_in_nI (n := 0) (by decide) (by decide)) dL_client_292 ?_
        refine k_top (y := xp v) rfl ?_
        refine lv_iconst (v := 2) cx.1 cx.2.1 dL_client_293 (by decide) ?_
        refine lv_icmp_ne (tgt := 301) cx.1 cx.2.1 dL_client_294 (by decide) (fun _ => ?_) (fun h9 => absurd h9 (by rw [c_1]; decide))
        refine lv_iconst (v := 0) cx.1 cx.2.1 dL_client_301 (by decide) ?_
        refine lv_isub cx.1 cx.2.1 dL_client_302 ?_
        refine lv_icmp_ne (tgt := 310) cx.1 cx.2.1 dL_client_303 (by decide) (fun h9 => absurd ((rows_0 (by rw [c_1]; decide) _ _ _ _).trans (sub0 _).symm) h9) (fun _ => ?_)
        refine lv_iconst (v := 1) cx.1 cx.2.1 dL_client_306 (by decide) ?_
        refine lv_goto (tgt := 311) cx.1 cx.2.1 dL_client_307 (by decide) ?_
        exact ke_g (lw ad oa cb ca (xFollow (xPut v (nI i) (-1) (-1)) (nI i)) (upd (lO v) i (-1)) (lK (xp v) (xt v) (xq v) (xk v) (xl v) (xm v) ((xc v) + 1)) []) [] cx hr hlk hI (Nat.le_of_ble_eq_true rfl) (Nat.le_of_ble_eq_true rfl) dL_client_311 rfl rfl ⟨_, hW.up (by omega), lw_eq (lO_d hi _ _) (lC_w1 c_1 (by have := hX.2.1.1; omega) hX.2.1.2.1 _ _ _ _)⟩
    · refine lv_aload_n cx.1 cx.2.1 dL_client_210 rfl (lv_at hl 5 rfl) ?_
      refine lv_iconst (v := 3) cx.1 cx.2.1 dL_client_211 (by decide) ?_
      refine lv_iload_n cx.1 cx.2.1 dL_client_212 rfl (lv_at hl 7 rfl) ?_
      refine lv_iconst (v := 0) cx.1 cx.2.1 dL_client_213 (by decide) ?_
      refine lv_iconst (v := 0) cx.1 cx.2.1 dL_client_214 (by decide) ?_
      refine lc_h 5 cx hE (hl.1.trans hml.symm) (CA.f2 (kL_asks3 l D ca ad v (nI i) 0 0 h0 (fdel_n hi) hlS) (fdel_2 hi hsn)) hI wk_213 wk_211 wk_212 wk_0 ⟨by decide, by decide, by decide +kernel⟩ rfl ⟨rfl, rfl⟩ ⟨Nat.le_of_ble_eq_true rfl, Nat.le_of_ble_eq_true rfl⟩ (Nat.le_of_ble_eq_true rfl) dL_client_215 ⟨Nat.le_of_ble_eq_true rfl, Nat.le_of_ble_eq_true rfl⟩ rfl (fun H locs hI => ?_)
      refine lv_istore (lv' := [(12, .int (-10)), (11, .int ((lO v) i)), (10, .int (if xp v = 0 then 0 else xBehinds v 40)), (9, .int (xShRows v 40)), (8, .int (b2i (xCbw v (nI x) (nI y)))), (7, .int (b2i (xSeen v (nI i)))), (0, .ref (ad 0)), (1, .int 3), (2, .int (nI i)), (3, .int (nI x)), (4, .int (nI y)), (5, .ref oa), (6, .ref cb)]) cx.1 cx.2.1 dL_client_218 hl (by decide) rfl (fun ls hl => ?_)
      refine lv_aload cx.1 cx.2.1 dL_client_220 (lv_at hl 11 rfl) ?_
      refine lv_iload_n cx.1 cx.2.1 dL_client_222 rfl (lv_at hl 8 rfl) ?_
      refine lv_iload cx.1 cx.2.1 dL_client_223 (lv_at hl 5 rfl) ?_
      refine kb_eq (tgt := 232) cx dL_client_225 (by decide) (fun _ => ?_) (fun h9 => (Bool.noConfusion ((hsn).symm.trans h9)))
      refine lv_iload cx.1 cx.2.1 dL_client_232 (lv_at hl 1 rfl) ?_
      refine ls_on cx hI hi dL_client_234 (fun H locs hI => ?_)
      refine lv_aload cx.1 cx.2.1 dL_client_235 (lv_at hl 12 rfl) ?_
      refine lv_bipush (v := 6) cx.1 cx.2.1 dL_client_237 (by decide) ?_
      refine lv_dup2_11 cx.1 cx.2.1 dL_client_239 rfl rfl ?_
      refine lr_c cx hI (vp_in_nI (n := 6) (by decide) (by decide)) dL_client_240 ?_
      refine k_top (y := xc v) rfl ?_
      refine lv_iload cx.1 cx.2.1 dL_client_241 (lv_at hl 5 rfl) ?_
      refine kb_eq (tgt := 258) cx dL_client_243 (by decide) (fun _ => ?_) (fun h9 => (Bool.noConfusion ((hsn).symm.trans h9)))
      refine lv_iconst (v := 0) cx.1 cx.2.1 dL_client_258 (by decide) ?_
      refine lv_iadd cx.1 cx.2.1 dL_client_259 ?_
      refine ls_c6 cx hI dL_client_260 (fun H locs hI => ?_)
      refine lv_iload cx.1 cx.2.1 dL_client_261 (lv_at hl 0 rfl) ?_
      refine lv_iload cx.1 cx.2.1 dL_client_263 (lv_at hl 5 rfl) ?_
      refine kb_eq (tgt := 273) cx dL_client_265 (by decide) (fun _ => ?_) (fun h9 => (Bool.noConfusion ((hsn).symm.trans h9)))
      refine lv_bipush (v := (-10)) cx.1 cx.2.1 dL_client_273 (by decide) ?_
      refine lv_icmp_ne (tgt := 310) cx.1 cx.2.1 dL_client_275 (by decide) (fun h9 => absurd (by decide) h9) (fun _ => ?_)
      refine lv_aload_n cx.1 cx.2.1 dL_client_278 rfl (lv_at hl 6 rfl) ?_
      refine lc_i 0 cx (hl.1.trans hml.symm) (kX0_shadowRows l D ca ad v) hI wk_171 wk_168 wk_169 wk_170 ⟨rfl, by decide +kernel⟩ rfl ⟨rfl, rfl⟩ ⟨Nat.le_of_ble_eq_true rfl, Nat.le_of_ble_eq_true rfl⟩ (Nat.le_of_ble_eq_true rfl) dL_client_279 ⟨Nat.le_of_ble_eq_true rfl, Nat.le_of_ble_eq_true rfl⟩ rfl (fun H locs hI => ?_)
      refine lv_iload cx.1 cx.2.1 dL_client_282 (lv_at hl 3 rfl) ?_
      refine lv_iload cx.1 cx.2.1 dL_client_284 (lv_at hl 5 rfl) ?_
      refine kb_eq (tgt := 301) cx dL_client_286 (by decide) (fun _ => ?_) (fun h9 => (Bool.noConfusion ((hsn).symm.trans h9)))
      refine lv_iconst (v := 0) cx.1 cx.2.1 dL_client_301 (by decide) ?_
      refine lv_isub cx.1 cx.2.1 dL_client_302 ?_
      refine lv_icmp_ne (tgt := 310) cx.1 cx.2.1 dL_client_303 (by decide) (fun h9 => absurd (sub0 _).symm h9) (fun _ => ?_)
      refine lv_iconst (v := 1) cx.1 cx.2.1 dL_client_306 (by decide) ?_
      refine lv_goto (tgt := 311) cx.1 cx.2.1 dL_client_307 (by decide) ?_
      exact ke_g (lw ad oa cb ca v (upd (lO v) i ((lO v) i)) (lK (xp v) (xt v) (xq v) (xk v) (xl v) (xm v) ((xc v) + 0)) []) [] cx hr hlk hI (Nat.le_of_ble_eq_true rfl) (Nat.le_of_ble_eq_true rfl) dL_client_311 rfl rfl ⟨v, (h.up (by omega)), lw_eq (lO_self _ _) (lC_0 v)⟩
  ·
    refine lv_icmp_ne (tgt := 36) cx.1 cx.2.1 dL_client_16 (by decide) (fun c_3 => ?_) (fun c_3 => ?_)
    · refine lv_iconst (v := 1) cx.1 cx.2.1 dL_client_36 (by decide) ?_
      refine lv_goto (tgt := 41) cx.1 cx.2.1 dL_client_37 (by decide) ?_
      exact k_top (by first | exact cbw_t hx hy c_3 | exact cbw_p hx hy c_3) (hj41 _ _ hI)
    · refine lv_aload cx.1 cx.2.1 dL_client_19 (lv_at hl 7 rfl) ?_
      refine lv_sipush (v := 1000) cx.1 cx.2.1 dL_client_21 (by decide) ?_
      refine lv_iload_n cx.1 cx.2.1 dL_client_24 rfl (lv_at hl 4 rfl) ?_
      refine lv_imul cx.1 cx.2.1 dL_client_25 ?_
      refine lv_iload cx.1 cx.2.1 dL_client_26 (lv_at hl 5 rfl) ?_
      refine lv_iadd cx.1 cx.2.1 dL_client_28 ?_
      refine k_top (y := nI (1000 * x + y)) (row_n x y) ?_
      refine lv_iconst (v := 0) cx.1 cx.2.1 dL_client_29 (by decide) ?_
      refine lc_c 3 cx (hl.1.trans hml.symm) (kL_altered l D ca cb (lK (xp v) (xt v) (xq v) (xk v) (xl v) (xm v) (xc v)) (nI (1000 * x + y)) 0) hI wk_167 wk_165 wk_166 wk_0 ⟨by decide, by decide, by decide +kernel⟩ rfl ⟨rfl, rfl⟩ ⟨Nat.le_of_ble_eq_true rfl, Nat.le_of_ble_eq_true rfl⟩ (Nat.le_of_ble_eq_true rfl) dL_client_30 ⟨Nat.le_of_ble_eq_true rfl, Nat.le_of_ble_eq_true rfl⟩ rfl (fun H locs hI => ?_)
      refine lv_if_lt (tgt := 40) cx.1 cx.2.1 dL_client_33 (by decide) (fun c_4 => ?_) (fun c_4 => ?_)
      · refine lv_iconst (v := 0) cx.1 cx.2.1 dL_client_40 (by decide) ?_
        exact k_top (cbw_n hx hy hX.1.2.1 c_3 c_4) (hj41 _ _ hI)
      · refine lv_iconst (v := 1) cx.1 cx.2.1 dL_client_36 (by decide) ?_
        refine lv_goto (tgt := 41) cx.1 cx.2.1 dL_client_37 (by decide) ?_
        exact k_top (by first | exact cbw_t hx hy c_4 | exact cbw_p hx hy c_4) (hj41 _ _ hI)

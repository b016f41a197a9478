/-! MINE: isTold. -/
set_option maxHeartbeats 4000000 in
set_option maxRecDepth 100000 in
theorem kL_isTold (l : Launch) (D : va_G) (ca : Nat → ClassId) (ad : Nat → Nat) (oa cb : Nat) {v : XS} {n : Nat} (h : zI n v) : CG l yL_isTold cL_isTold 13 (some .boolean) { frames := 6, cells := 1, slots := 6, locals := 130 } D ca (lw ad oa cb ca v (lO v) (lC v) []) [.ref (ad 0), .ref oa, .ref cb] (some (.int 1)) (fun w => w = lw ad oa cb ca v (lO v) (lC v) []) 1 6 := by
  refine CG.of (by decide) (Nat.le_of_ble_eq_true rfl) ?_
  intro p e s m below meth c0 A ls cx hml hr hlk hE hI hl
  have hl : lv_has ls 13 [(0, .ref (ad 0)), (1, .ref oa), (2, .ref cb)] := hl
  obtain ⟨c1, m1, hX⟩ := h
  have hA : ∀ j, j < 40 → zA v j := fun j hj => (hX.1.1 j hj).1
  have hZ : ∀ j, j < 40 → zS v j := fun j hj => (hX.1.1 j hj).2
  have hI : KI D A (lw ad oa cb ca v (lO v) (lK (xp v) (xt v) (xq v) (xk v) (xl v) (xm v) (xc v)) []) s.heap s.heap [] := hI
  refine lv_iconst (v := 0) cx.1 cx.2.1 dL_isTold_0 (by decide) ?_
  refine lv_istore_n (lv' := [(3, .int 0), (0, .ref (ad 0)), (1, .ref oa), (2, .ref cb)]) cx.1 cx.2.1 dL_isTold_1 rfl hl (by decide) rfl (fun ls hl => ?_)
  refine lv_iconst (v := 0) cx.1 cx.2.1 dL_isTold_2 (by decide) ?_
  refine lv_istore (lv' := [(4, .int 0), (3, .int 0), (0, .ref (ad 0)), (1, .ref oa), (2, .ref cb)]) cx.1 cx.2.1 dL_isTold_3 hl (by decide) rfl (fun ls hl => ?_)
  refine lv_iconst (v := 0) cx.1 cx.2.1 dL_isTold_5 (by decide) ?_
  refine lv_istore (lv' := [(5, .int 0), (4, .int 0), (3, .int 0), (0, .ref (ad 0)), (1, .ref oa), (2, .ref cb)]) cx.1 cx.2.1 dL_isTold_6 hl (by decide) rfl (fun ls hl => ?_)
  refine lv_bipush (v := 6) cx.1 cx.2.1 dL_isTold_8 (by decide) ?_
  refine k_newI 6 cx hI (by decide) (by decide) (by decide) ⟨Nat.le_of_ble_eq_true rfl, Nat.le_of_ble_eq_true rfl⟩ dL_isTold_10 (fun sa H hI => ?_)
  have hI : KI D A (lw ad oa cb ca v (lO v) (lK (xp v) (xt v) (xq v) (xk v) (xl v) (xm v) (xc v)) (hw sa ca (hS v 0 0))) s.heap H [] := by rw [hS_0]; exact hI
  refine lv_astore (lv' := [(6, .ref sa), (5, .int 0), (4, .int 0), (3, .int 0), (0, .ref (ad 0)), (1, .ref oa), (2, .ref cb)]) cx.1 cx.2.1 dL_isTold_12 hl (by decide) rfl (fun ls hl => ?_)
  refine lv_aload_n cx.1 cx.2.1 dL_isTold_14 rfl (lv_at hl 4 rfl) ?_
  refine lc_i 0 cx (hl.1.trans hml.symm) (kX0_phase l D ca ad v) hI wk_415 wk_412 wk_413 wk_414 ⟨rfl, by decide +kernel⟩ rfl ⟨rfl, rfl⟩ ⟨Nat.le_of_ble_eq_true rfl, Nat.le_of_ble_eq_true rfl⟩ (Nat.le_of_ble_eq_true rfl) dL_isTold_15 ⟨Nat.le_of_ble_eq_true rfl, Nat.le_of_ble_eq_true rfl⟩ rfl (fun H locs hI => ?_)
  refine lv_aload_n cx.1 cx.2.1 dL_isTold_18 rfl (lv_at hl 6 rfl) ?_
  refine lv_iconst (v := 0) cx.1 cx.2.1 dL_isTold_19 (by decide) ?_
  refine lr_c cx hI (vp_in_nI (n := 0) (by decide) (by decide)) dL_isTold_20 ?_
  refine k_top (y := xp v) rfl ?_
  refine lv_icmp_ne (tgt := 59) cx.1 cx.2.1 dL_isTold_21 (by decide) (fun h9 => absurd h9 (fun q => q rfl)) (fun _ => ?_)
  refine lv_aload_n cx.1 cx.2.1 dL_isTold_24 rfl (lv_at hl 4 rfl) ?_
  refine lc_i 0 cx (hl.1.trans hml.symm) (kX0_mark l D ca ad v) hI wk_419 wk_416 wk_417 wk_418 ⟨rfl, by decide +kernel⟩ rfl ⟨rfl, rfl⟩ ⟨Nat.le_of_ble_eq_true rfl, Nat.le_of_ble_eq_true rfl⟩ (Nat.le_of_ble_eq_true rfl) dL_isTold_25 ⟨Nat.le_of_ble_eq_true rfl, Nat.le_of_ble_eq_true rfl⟩ rfl (fun H locs hI => ?_)
  refine lv_aload_n cx.1 cx.2.1 dL_isTold_28 rfl (lv_at hl 6 rfl) ?_
  refine lv_iconst (v := 0) cx.1 cx.2.1 dL_isTold_29 (by decide) ?_
  refine lr_c cx hI (vp_in_nI (n := 0) (by decide) (by decide)) dL_isTold_30 ?_
  refine k_top (y := xp v) rfl ?_
  refine k_join (D := D) (A := A) 41 (lw ad oa cb ca v (lO v) (lK (xp v) (xt v) (xq v) (xk v) (xl v) (xm v) (xc v)) (hw sa ca (hS v 0 0))) [.int (if xp v = 0 then -1 else xm v), .int (if xp v = 0 then -1 else xm v)] (fun H locs hI => ?_) (fun hj41 => ?_)
  · refine lv_icmp_ne (tgt := 59) cx.1 cx.2.1 dL_isTold_41 (by decide) (fun h9 => absurd h9 (fun q => q rfl)) (fun _ => ?_)
    refine lv_aload_n cx.1 cx.2.1 dL_isTold_44 rfl (lv_at hl 4 rfl) ?_
    refine lc_i 0 cx (hl.1.trans hml.symm) (kX0_notes l D ca ad v) hI wk_423 wk_420 wk_421 wk_422 ⟨rfl, by decide +kernel⟩ rfl ⟨rfl, rfl⟩ ⟨Nat.le_of_ble_eq_true rfl, Nat.le_of_ble_eq_true rfl⟩ (Nat.le_of_ble_eq_true rfl) dL_isTold_45 ⟨Nat.le_of_ble_eq_true rfl, Nat.le_of_ble_eq_true rfl⟩ rfl (fun H locs hI => ?_)
    refine lv_aload_n cx.1 cx.2.1 dL_isTold_48 rfl (lv_at hl 6 rfl) ?_
    refine lv_bipush (v := 6) cx.1 cx.2.1 dL_isTold_49 (by decide) ?_
    refine lr_c cx hI (vp_in_nI (n := 6) (by decide) (by decide)) dL_isTold_51 ?_
    refine k_top (y := xc v) rfl ?_
    refine lv_icmp_ne (tgt := 59) cx.1 cx.2.1 dL_isTold_52 (by decide) (fun h9 => absurd h9 (fun q => q rfl)) (fun _ => ?_)
    refine lv_iconst (v := 1) cx.1 cx.2.1 dL_isTold_55 (by decide) ?_
    refine lv_goto (tgt := 60) cx.1 cx.2.1 dL_isTold_56 (by decide) ?_
    refine lv_istore (lv' := [(7, .int 1), (6, .ref sa), (5, .int 0), (4, .int 0), (3, .int 0), (0, .ref (ad 0)), (1, .ref oa), (2, .ref cb)]) cx.1 cx.2.1 dL_isTold_60 hl (by decide) rfl (fun ls hl => ?_)
    refine lv_iconst (v := 0) cx.1 cx.2.1 dL_isTold_62 (by decide) ?_
    refine lv_istore (lv' := [(8, .int 0), (7, .int 1), (6, .ref sa), (5, .int 0), (4, .int 0), (3, .int 0), (0, .ref (ad 0)), (1, .ref oa), (2, .ref cb)]) cx.1 cx.2.1 dL_isTold_63 hl (by decide) rfl (fun ls hl => ?_)
    refine k_loop 40 (fun i => (lw ad oa cb ca v (lO v) (lK (xp v) (xt v) (xq v) (xk v) (xl v) (xm v) (xc v)) (hw sa ca (hS v i 0)))) (fun i => [(8, .int (nI i)), (3, .int (xRows v i)), (4, .int (xShRows v i)), (5, .int (zBe v i)), (6, .ref sa), (7, .int 1), (0, .ref (ad 0)), (1, .ref oa), (2, .ref cb)]) hI (lv_sub hl [0, 5, 4, 3, 2, 1, 6, 7, 8] rfl) (fun H locs ls hI hl => ?_) (fun i hi H locs ls hI hl ih => ?_)
    · have hI : KI D A (lw ad oa cb ca v (lO v) (lK (xp v) (xt v) (xq v) (xk v) (xl v) (xm v) (xc v)) (hw sa ca (hS v 40 0))) s.heap H locs := hI
      have hl : lv_has ls 13 [(8, .int (nI 40)), (3, .int (xRows v 40)), (4, .int (xShRows v 40)), (5, .int (zBe v 40)), (6, .ref sa), (7, .int 1), (0, .ref (ad 0)), (1, .ref oa), (2, .ref cb)] := hl
      refine lv_iload cx.1 cx.2.1 dL_isTold_65 (lv_at hl 0 rfl) ?_
      refine lv_bipush (v := 40) cx.1 cx.2.1 dL_isTold_67 (by decide) ?_
      refine lv_icmp_ge (tgt := 389) cx.1 cx.2.1 dL_isTold_69 (by decide) (fun _ => ?_) (fun h9 => absurd (by decide : (40 : Int32) ≤ nI 40) h9)
      refine lv_iconst (v := 0) cx.1 cx.2.1 dL_isTold_389 (by decide) ?_
      refine lv_istore (lv' := [(8, .int 0), (3, .int (xRows v 40)), (4, .int (xShRows v 40)), (5, .int (zBe v 40)), (6, .ref sa), (7, .int 1), (0, .ref (ad 0)), (1, .ref oa), (2, .ref cb)]) cx.1 cx.2.1 dL_isTold_390 hl (by decide) rfl (fun ls hl => ?_)
      refine k_loop 3 (fun k => (lw ad oa cb ca v (lO v) (lK (xp v) (xt v) (xq v) (xk v) (xl v) (xm v) (xc v)) (hw sa ca (hS v 40 0)))) (fun k => [(8, .int (nI k)), (3, .int (xRows v 40)), (4, .int (xShRows v 40)), (5, .int (zBe v 40)), (6, .ref sa), (7, .int 1), (0, .ref (ad 0)), (1, .ref oa), (2, .ref cb)]) hI (lv_sub hl [0, 1, 2, 3, 4, 5, 6, 7, 8] rfl) (fun H locs ls hI hl => ?_) (fun k hk H locs ls hI hl ih => ?_)
      · have hI : KI D A (lw ad oa cb ca v (lO v) (lK (xp v) (xt v) (xq v) (xk v) (xl v) (xm v) (xc v)) (hw sa ca (hS v 40 0))) s.heap H locs := hI
        have hl : lv_has ls 13 [(8, .int (nI 3)), (3, .int (xRows v 40)), (4, .int (xShRows v 40)), (5, .int (zBe v 40)), (6, .ref sa), (7, .int 1), (0, .ref (ad 0)), (1, .ref oa), (2, .ref cb)] := hl
        refine lv_iload cx.1 cx.2.1 dL_isTold_392 (lv_at hl 0 rfl) ?_
        refine lv_iconst (v := 3) cx.1 cx.2.1 dL_isTold_394 (by decide) ?_
        refine lv_icmp_ge (tgt := 446) cx.1 cx.2.1 dL_isTold_395 (by decide) (fun _ => ?_) (fun h9 => absurd (by decide : (3 : Int32) ≤ nI 3) h9)
        refine lv_iload cx.1 cx.2.1 dL_isTold_446 (lv_at hl 5 rfl) ?_
        refine lv_if_eq (tgt := 481) cx.1 cx.2.1 dL_isTold_448 (by decide) (fun h9 => absurd h9 (by decide)) (fun _ => ?_)
        refine lv_aload_n cx.1 cx.2.1 dL_isTold_451 rfl (lv_at hl 6 rfl) ?_
        refine lc_i 0 cx (hl.1.trans hml.symm) (kX0_rows l D ca ad v) hI wk_408 wk_405 wk_406 wk_407 ⟨rfl, by decide +kernel⟩ rfl ⟨rfl, rfl⟩ ⟨Nat.le_of_ble_eq_true rfl, Nat.le_of_ble_eq_true rfl⟩ (Nat.le_of_ble_eq_true rfl) dL_isTold_452 ⟨Nat.le_of_ble_eq_true rfl, Nat.le_of_ble_eq_true rfl⟩ rfl (fun H locs hI => ?_)
        refine lv_iload_n cx.1 cx.2.1 dL_isTold_455 rfl (lv_at hl 1 rfl) ?_
        refine lv_icmp_ne (tgt := 481) cx.1 cx.2.1 dL_isTold_456 (by decide) (fun h9 => absurd h9 (fun q => q rfl)) (fun _ => ?_)
        refine lv_aload_n cx.1 cx.2.1 dL_isTold_459 rfl (lv_at hl 6 rfl) ?_
        refine lc_i 0 cx (hl.1.trans hml.symm) (kX0_shadowRows l D ca ad v) hI wk_171 wk_168 wk_169 wk_170 ⟨rfl, by decide +kernel⟩ rfl ⟨rfl, rfl⟩ ⟨Nat.le_of_ble_eq_true rfl, Nat.le_of_ble_eq_true rfl⟩ (Nat.le_of_ble_eq_true rfl) dL_isTold_460 ⟨Nat.le_of_ble_eq_true rfl, Nat.le_of_ble_eq_true rfl⟩ rfl (fun H locs hI => ?_)
        refine lv_iload cx.1 cx.2.1 dL_isTold_463 (lv_at hl 2 rfl) ?_
        refine lv_icmp_ne (tgt := 481) cx.1 cx.2.1 dL_isTold_465 (by decide) (fun h9 => absurd h9 (fun q => q rfl)) (fun _ => ?_)
        refine lv_aload_n cx.1 cx.2.1 dL_isTold_468 rfl (lv_at hl 6 rfl) ?_
        refine lc_i 0 cx (hl.1.trans hml.symm) (kX0_behind l D ca ad v) hI wk_179 wk_176 wk_177 wk_178 ⟨rfl, by decide +kernel⟩ rfl ⟨rfl, rfl⟩ ⟨Nat.le_of_ble_eq_true rfl, Nat.le_of_ble_eq_true rfl⟩ (Nat.le_of_ble_eq_true rfl) dL_isTold_469 ⟨Nat.le_of_ble_eq_true rfl, Nat.le_of_ble_eq_true rfl⟩ rfl (fun H locs hI => ?_)
        refine lv_iload cx.1 cx.2.1 dL_isTold_472 (lv_at hl 3 rfl) ?_
        refine lv_icmp_ne (tgt := 481) cx.1 cx.2.1 dL_isTold_474 (by decide) (fun h9 => absurd h9 (fun q => q (zBe_40 v))) (fun _ => ?_)
        refine lv_iconst (v := 1) cx.1 cx.2.1 dL_isTold_477 (by decide) ?_
        refine lv_goto (tgt := 482) cx.1 cx.2.1 dL_isTold_478 (by decide) ?_
        exact ke_g (lw ad oa cb ca v (lO v) (lC v) []) (hw sa ca (hS v 40 0)) cx hr hlk hI (Nat.le_of_ble_eq_true rfl) (Nat.le_of_ble_eq_true rfl) dL_isTold_482 rfl rfl rfl
      · have hI : KI D A (lw ad oa cb ca v (lO v) (lK (xp v) (xt v) (xq v) (xk v) (xl v) (xm v) (xc v)) (hw sa ca (hS v 40 0))) s.heap H locs := hI
        have hl : lv_has ls 13 [(8, .int (nI k)), (3, .int (xRows v 40)), (4, .int (xShRows v 40)), (5, .int (zBe v 40)), (6, .ref sa), (7, .int 1), (0, .ref (ad 0)), (1, .ref oa), (2, .ref cb)] := hl
        refine lv_iload cx.1 cx.2.1 dL_isTold_392 (lv_at hl 0 rfl) ?_
        refine lv_iconst (v := 3) cx.1 cx.2.1 dL_isTold_394 (by decide) ?_
        refine lv_icmp_ge (tgt := 446) cx.1 cx.2.1 dL_isTold_395 (by decide) (fun h9 => absurd h9 (nI_ge hk (by decide))) (fun _ => ?_)
        refine lv_iload cx.1 cx.2.1 dL_isTold_398 (lv_at hl 5 rfl) ?_
        refine lv_if_eq (tgt := 446) cx.1 cx.2.1 dL_isTold_400 (by decide) (fun h9 => absurd h9 (by decide)) (fun _ => ?_)
        refine lv_aload_n cx.1 cx.2.1 dL_isTold_403 rfl (lv_at hl 6 rfl) ?_
        refine lv_iload cx.1 cx.2.1 dL_isTold_404 (lv_at hl 0 rfl) ?_
        refine lc_i 1 cx (hl.1.trans hml.symm) (kS_sum l D ca ad v (nI k) (vp_in_nI hk (by decide))) hI wk_427 wk_424 wk_425 wk_426 ⟨rfl, by decide +kernel⟩ rfl ⟨rfl, rfl⟩ ⟨Nat.le_of_ble_eq_true rfl, Nat.le_of_ble_eq_true rfl⟩ (Nat.le_of_ble_eq_true rfl) dL_isTold_406 ⟨Nat.le_of_ble_eq_true rfl, Nat.le_of_ble_eq_true rfl⟩ rfl (fun H locs hI => ?_)
        refine lv_aload cx.1 cx.2.1 dL_isTold_409 (lv_at hl 4 rfl) ?_
        refine lv_iload cx.1 cx.2.1 dL_isTold_411 (lv_at hl 0 rfl) ?_
        refine lr_hn cx hI (by omega) dL_isTold_413 ?_
        refine lv_icmp_ne (tgt := 437) cx.1 cx.2.1 dL_isTold_414 (by decide) (fun h9 => absurd h9 (fun q => q (hS_sum v hk).1.symm)) (fun _ => ?_)
        refine lv_aload_n cx.1 cx.2.1 dL_isTold_417 rfl (lv_at hl 6 rfl) ?_
        refine lv_iload cx.1 cx.2.1 dL_isTold_418 (lv_at hl 0 rfl) ?_
        refine lc_i 1 cx (hl.1.trans hml.symm) (kS_sumAtOnce l D ca ad v (nI k) (vp_in_nI hk (by decide))) hI wk_432 wk_429 wk_430 wk_431 ⟨rfl, by decide +kernel⟩ rfl ⟨rfl, rfl⟩ ⟨Nat.le_of_ble_eq_true rfl, Nat.le_of_ble_eq_true rfl⟩ (Nat.le_of_ble_eq_true rfl) dL_isTold_420 ⟨Nat.le_of_ble_eq_true rfl, Nat.le_of_ble_eq_true rfl⟩ rfl (fun H locs hI => ?_)
        refine lv_aload cx.1 cx.2.1 dL_isTold_423 (lv_at hl 4 rfl) ?_
        refine lv_iconst (v := 3) cx.1 cx.2.1 dL_isTold_425 (by decide) ?_
        refine lv_iload cx.1 cx.2.1 dL_isTold_426 (lv_at hl 0 rfl) ?_
        refine lv_iadd cx.1 cx.2.1 dL_isTold_428 ?_
        refine k_top (y := nI (k + 3)) (n3k k) ?_
        refine lr_hn cx hI (by omega) dL_isTold_429 ?_
        refine lv_icmp_ne (tgt := 437) cx.1 cx.2.1 dL_isTold_430 (by decide) (fun h9 => absurd h9 (fun q => q ((zAt_40 v (nI k)).trans (hS_sum v hk).2.symm))) (fun _ => ?_)
        refine lv_iconst (v := 1) cx.1 cx.2.1 dL_isTold_433 (by decide) ?_
        refine lv_goto (tgt := 438) cx.1 cx.2.1 dL_isTold_434 (by decide) ?_
        refine lv_istore (lv' := [(7, .int 1), (8, .int (nI k)), (3, .int (xRows v 40)), (4, .int (xShRows v 40)), (5, .int (zBe v 40)), (6, .ref sa), (0, .ref (ad 0)), (1, .ref oa), (2, .ref cb)]) cx.1 cx.2.1 dL_isTold_438 hl (by decide) rfl (fun ls hl => ?_)
        refine lv_iinc (v := nI (k + 1)) (lv' := [(8, .int (nI (k + 1))), (7, .int 1), (3, .int (xRows v 40)), (4, .int (xShRows v 40)), (5, .int (zBe v 40)), (6, .ref sa), (0, .ref (ad 0)), (1, .ref oa), (2, .ref cb)]) cx.1 cx.2.1 dL_isTold_440 hl (k := 1) rfl (nI_1 k) (by decide) rfl (fun ls hl => ?_)
        refine lv_goto (tgt := 392) cx.1 cx.2.1 dL_isTold_443 (by decide) ?_
        refine ih _ _ _ ?_ ?_
        · show KI D A (lw ad oa cb ca v (lO v) (lK (xp v) (xt v) (xq v) (xk v) (xl v) (xm v) (xc v)) (hw sa ca (hS v 40 0))) s.heap _ _
          exact hI
        · show lv_has _ _ [(8, .int (nI (k + 1))), (3, .int (xRows v 40)), (4, .int (xShRows v 40)), (5, .int (zBe v 40)), (6, .ref sa), (7, .int 1), (0, .ref (ad 0)), (1, .ref oa), (2, .ref cb)]
          exact lv_sub hl [0, 2, 3, 4, 5, 1, 6, 7, 8] rfl
    · have hI : KI D A (lw ad oa cb ca v (lO v) (lK (xp v) (xt v) (xq v) (xk v) (xl v) (xm v) (xc v)) (hw sa ca (hS v i 0))) s.heap H locs := hI
      have hl : lv_has ls 13 [(8, .int (nI i)), (3, .int (xRows v i)), (4, .int (xShRows v i)), (5, .int (zBe v i)), (6, .ref sa), (7, .int 1), (0, .ref (ad 0)), (1, .ref oa), (2, .ref cb)] := hl
      refine lv_iload cx.1 cx.2.1 dL_isTold_65 (lv_at hl 0 rfl) ?_
      refine lv_bipush (v := 40) cx.1 cx.2.1 dL_isTold_67 (by decide) ?_
      refine lv_icmp_ge (tgt := 389) cx.1 cx.2.1 dL_isTold_69 (by decide) (fun h9 => absurd h9 (nI_ge hi (by decide))) (fun _ => ?_)
      refine lv_iload cx.1 cx.2.1 dL_isTold_72 (lv_at hl 5 rfl) ?_
      refine lv_if_eq (tgt := 389) cx.1 cx.2.1 dL_isTold_74 (by decide) (fun h9 => absurd h9 (by decide)) (fun _ => ?_)
      refine lv_aload_n cx.1 cx.2.1 dL_isTold_77 rfl (lv_at hl 6 rfl) ?_
      refine lv_aload_n cx.1 cx.2.1 dL_isTold_78 rfl (lv_at hl 7 rfl) ?_
      refine lv_aload_n cx.1 cx.2.1 dL_isTold_79 rfl (lv_at hl 8 rfl) ?_
      refine lv_iload cx.1 cx.2.1 dL_isTold_80 (lv_at hl 0 rfl) ?_
      refine lc_w 4 cx (hl.1.trans hml.symm) (kL_isSeen l D ca ad oa cb v (lO v) (xp v) (xt v) (xq v) (xk v) (xl v) (xm v) (xc v) hi (hA i hi) (hZ i hi) rfl rfl) hI wk_82 wk_80 wk_81 wk_0 ⟨by decide, by decide, by decide +kernel⟩ rfl ⟨rfl, rfl⟩ ⟨Nat.le_of_ble_eq_true rfl, Nat.le_of_ble_eq_true rfl⟩ (Nat.le_of_ble_eq_true rfl) dL_isTold_82 ⟨Nat.le_of_ble_eq_true rfl, Nat.le_of_ble_eq_true rfl⟩ rfl (fun H locs hI => ?_)
      refine lv_istore (lv' := [(9, .int (b2i (xSeen v (nI i)))), (8, .int (nI i)), (3, .int (xRows v i)), (4, .int (xShRows v i)), (5, .int (zBe v i)), (6, .ref sa), (7, .int 1), (0, .ref (ad 0)), (1, .ref oa), (2, .ref cb)]) cx.1 cx.2.1 dL_isTold_85 hl (by decide) rfl (fun ls hl => ?_)
      refine lv_aload_n cx.1 cx.2.1 dL_isTold_87 rfl (lv_at hl 7 rfl) ?_
      refine lv_iload cx.1 cx.2.1 dL_isTold_88 (lv_at hl 1 rfl) ?_
      refine lv_iconst (v := 0) cx.1 cx.2.1 dL_isTold_90 (by decide) ?_
      refine lc_i 2 cx (hl.1.trans hml.symm) (kS_shadow l D ca ad v (nI i) 0 (vp_in_nI hi (by decide)) (vp_in_nI (n := 0) (by decide) (by decide))) hI wk_86 wk_83 wk_84 wk_85 ⟨rfl, by decide +kernel⟩ rfl ⟨rfl, rfl⟩ ⟨Nat.le_of_ble_eq_true rfl, Nat.le_of_ble_eq_true rfl⟩ (Nat.le_of_ble_eq_true rfl) dL_isTold_91 ⟨Nat.le_of_ble_eq_true rfl, Nat.le_of_ble_eq_true rfl⟩ rfl (fun H locs hI => ?_)
      refine k_top (y := xC v 0 i) (congrArg (xC v 0) (kx hi)) ?_
      refine k_join (D := D) (A := A) 102 (lw ad oa cb ca v (lO v) (lK (xp v) (xt v) (xq v) (xk v) (xl v) (xm v) (xc v)) (hw sa ca (hS v i 0))) [.int (b2i (xSh v (nI i)))] (fun H locs hI => ?_) (fun hj102 => ?_)
      · refine lv_istore (lv' := [(10, .int (b2i (xSh v (nI i)))), (9, .int (b2i (xSeen v (nI i)))), (8, .int (nI i)), (3, .int (xRows v i)), (4, .int (xShRows v i)), (5, .int (zBe v i)), (6, .ref sa), (7, .int 1), (0, .ref (ad 0)), (1, .ref oa), (2, .ref cb)]) cx.1 cx.2.1 dL_isTold_102 hl (by decide) rfl (fun ls hl => ?_)
        refine lv_iload_n cx.1 cx.2.1 dL_isTold_104 rfl (lv_at hl 3 rfl) ?_
        refine lv_iload cx.1 cx.2.1 dL_isTold_105 (lv_at hl 1 rfl) ?_
        refine k_join (D := D) (A := A) 115 (lw ad oa cb ca v (lO v) (lK (xp v) (xt v) (xq v) (xk v) (xl v) (xm v) (xc v)) (hw sa ca (hS v i 0))) [.int (b2i (xSeen v (nI i))), .int (xRows v i)] (fun H locs hI => ?_) (fun hj115 => ?_)
        · refine lv_iadd cx.1 cx.2.1 dL_isTold_115 ?_
          refine lv_istore_n (lv' := [(3, .int ((xRows v i) + (b2i (xSeen v (nI i))))), (10, .int (b2i (xSh v (nI i)))), (9, .int (b2i (xSeen v (nI i)))), (8, .int (nI i)), (4, .int (xShRows v i)), (5, .int (zBe v i)), (6, .ref sa), (7, .int 1), (0, .ref (ad 0)), (1, .ref oa), (2, .ref cb)]) cx.1 cx.2.1 dL_isTold_116 rfl hl (by decide) rfl (fun ls hl => ?_)
          refine lv_iload cx.1 cx.2.1 dL_isTold_117 (lv_at hl 4 rfl) ?_
          refine lv_iload cx.1 cx.2.1 dL_isTold_119 (lv_at hl 1 rfl) ?_
          refine k_join (D := D) (A := A) 129 (lw ad oa cb ca v (lO v) (lK (xp v) (xt v) (xq v) (xk v) (xl v) (xm v) (xc v)) (hw sa ca (hS v i 0))) [.int (b2i (xSh v (nI i))), .int (xShRows v i)] (fun H locs hI => ?_) (fun hj129 => ?_)
          · refine lv_iadd cx.1 cx.2.1 dL_isTold_129 ?_
            refine lv_istore (lv' := [(4, .int ((xShRows v i) + (b2i (xSh v (nI i))))), (3, .int ((xRows v i) + (b2i (xSeen v (nI i))))), (10, .int (b2i (xSh v (nI i)))), (9, .int (b2i (xSeen v (nI i)))), (8, .int (nI i)), (5, .int (zBe v i)), (6, .ref sa), (7, .int 1), (0, .ref (ad 0)), (1, .ref oa), (2, .ref cb)]) cx.1 cx.2.1 dL_isTold_130 hl (by decide) rfl (fun ls hl => ?_)
            refine lv_iload cx.1 cx.2.1 dL_isTold_132 (lv_at hl 5 rfl) ?_
            refine lv_aload_n cx.1 cx.2.1 dL_isTold_134 rfl (lv_at hl 10 rfl) ?_
            refine lv_iconst (v := 0) cx.1 cx.2.1 dL_isTold_135 (by decide) ?_
            refine lr_c cx hI (vp_in_nI (n := 0) (by decide) (by decide)) dL_isTold_136 ?_
            refine k_top (y := xp v) rfl ?_
            refine k_join (D := D) (A := A) 156 (lw ad oa cb ca v (lO v) (lK (xp v) (xt v) (xq v) (xk v) (xl v) (xm v) (xc v)) (hw sa ca (hS v i 0))) [.int (b2i (!decide (xp v = 0) && xBeh v (nI i))), .int (zBe v i)] (fun H locs hI => ?_) (fun hj156 => ?_)
            · refine lv_iadd cx.1 cx.2.1 dL_isTold_156 ?_
              refine lv_istore (lv' := [(5, .int ((zBe v i) + (b2i (!decide (xp v = 0) && xBeh v (nI i))))), (4, .int ((xShRows v i) + (b2i (xSh v (nI i))))), (3, .int ((xRows v i) + (b2i (xSeen v (nI i))))), (10, .int (b2i (xSh v (nI i)))), (9, .int (b2i (xSeen v (nI i)))), (8, .int (nI i)), (6, .ref sa), (7, .int 1), (0, .ref (ad 0)), (1, .ref oa), (2, .ref cb)]) cx.1 cx.2.1 dL_isTold_157 hl (by decide) rfl (fun ls hl => ?_)
              refine lv_iconst (v := 0) cx.1 cx.2.1 dL_isTold_159 (by decide) ?_
              refine lv_istore (lv' := [(11, .int 0), (5, .int ((zBe v i) + (b2i (!decide (xp v = 0) && xBeh v (nI i))))), (4, .int ((xShRows v i) + (b2i (xSh v (nI i))))), (3, .int ((xRows v i) + (b2i (xSeen v (nI i))))), (10, .int (b2i (xSh v (nI i)))), (9, .int (b2i (xSeen v (nI i)))), (8, .int (nI i)), (6, .ref sa), (7, .int 1), (0, .ref (ad 0)), (1, .ref oa), (2, .ref cb)]) cx.1 cx.2.1 dL_isTold_160 hl (by decide) rfl (fun ls hl => ?_)
              refine k_loop 3 (fun k => (lw ad oa cb ca v (lO v) (lK (xp v) (xt v) (xq v) (xk v) (xl v) (xm v) (xc v)) (hw sa ca (hS v i k)))) (fun k => [(11, .int (nI k)), (8, .int (nI i)), (3, .int (xRows v i + b2i (xSeen v (nI i)))), (4, .int (xShRows v i + b2i (xSh v (nI i)))), (5, .int (zBe v i + b2i (!decide (xp v = 0) && xBeh v (nI i)))), (6, .ref sa), (7, .int 1), (9, .int (b2i (xSeen v (nI i)))), (10, .int (b2i (xSh v (nI i)))), (0, .ref (ad 0)), (1, .ref oa), (2, .ref cb)]) hI (lv_sub hl [0, 6, 3, 2, 1, 7, 8, 5, 4, 9, 10, 11] rfl) (fun H locs ls hI hl => ?_) (fun k hk H locs ls hI hl ih => ?_)
              · have hI : KI D A (lw ad oa cb ca v (lO v) (lK (xp v) (xt v) (xq v) (xk v) (xl v) (xm v) (xc v)) (hw sa ca (hS v i 3))) s.heap H locs := hI
                have hl : lv_has ls 13 [(11, .int (nI 3)), (8, .int (nI i)), (3, .int (xRows v i + b2i (xSeen v (nI i)))), (4, .int (xShRows v i + b2i (xSh v (nI i)))), (5, .int (zBe v i + b2i (!decide (xp v = 0) && xBeh v (nI i)))), (6, .ref sa), (7, .int 1), (9, .int (b2i (xSeen v (nI i)))), (10, .int (b2i (xSh v (nI i)))), (0, .ref (ad 0)), (1, .ref oa), (2, .ref cb)] := hl
                refine lv_iload cx.1 cx.2.1 dL_isTold_162 (lv_at hl 0 rfl) ?_
                refine lv_iconst (v := 3) cx.1 cx.2.1 dL_isTold_164 (by decide) ?_
                refine lv_icmp_ge (tgt := 271) cx.1 cx.2.1 dL_isTold_165 (by decide) (fun _ => ?_) (fun h9 => absurd (by decide : (3 : Int32) ≤ nI 3) h9)
                refine lv_iload cx.1 cx.2.1 dL_isTold_271 (lv_at hl 6 rfl) ?_
                refine lv_if_eq (tgt := 380) cx.1 cx.2.1 dL_isTold_273 (by decide) (fun h9 => absurd h9 (by decide)) (fun _ => ?_)
                refine lv_aload_n cx.1 cx.2.1 dL_isTold_276 rfl (lv_at hl 9 rfl) ?_
                refine lv_iload cx.1 cx.2.1 dL_isTold_277 (lv_at hl 1 rfl) ?_
                refine lc_i 1 cx (hl.1.trans hml.symm) (kS_row l D ca ad v (nI i) (vp_in_nI hi (by decide))) hI wk_404 wk_401 wk_402 wk_403 ⟨rfl, by decide +kernel⟩ rfl ⟨rfl, rfl⟩ ⟨Nat.le_of_ble_eq_true rfl, Nat.le_of_ble_eq_true rfl⟩ (Nat.le_of_ble_eq_true rfl) dL_isTold_279 ⟨Nat.le_of_ble_eq_true rfl, Nat.le_of_ble_eq_true rfl⟩ rfl (fun H locs hI => ?_)
                refine lv_iload cx.1 cx.2.1 dL_isTold_282 (lv_at hl 7 rfl) ?_
                refine k_join (D := D) (A := A) 295 (lw ad oa cb ca v (lO v) (lK (xp v) (xt v) (xq v) (xk v) (xl v) (xm v) (xc v)) (hw sa ca (hS v i 3))) [.int (if xSeen v (nI i) then xRow v (nI i) else -1), .int (if xSeen v (nI i) then xRow v (nI i) else -1)] (fun H locs hI => ?_) (fun hj295 => ?_)
                · refine lv_icmp_ne (tgt := 380) cx.1 cx.2.1 dL_isTold_295 (by decide) (fun h9 => absurd h9 (fun q => q rfl)) (fun _ => ?_)
                  refine lv_aload_n cx.1 cx.2.1 dL_isTold_298 rfl (lv_at hl 11 rfl) ?_
                  refine lv_iconst (v := 0) cx.1 cx.2.1 dL_isTold_299 (by decide) ?_
                  refine lr_c cx hI (vp_in_nI (n := 0) (by decide) (by decide)) dL_isTold_300 ?_
                  refine k_top (y := xp v) rfl ?_
                  refine k_join (D := D) (A := A) 318 (lw ad oa cb ca v (lO v) (lK (xp v) (xt v) (xq v) (xk v) (xl v) (xm v) (xc v)) (hw sa ca (hS v i 3))) [] (fun H locs hI => ?_) (fun hj318 => ?_)
                  · refine lv_iload cx.1 cx.2.1 dL_isTold_318 (lv_at hl 8 rfl) ?_
                    refine k_join (D := D) (A := A) 332 (lw ad oa cb ca v (lO v) (lK (xp v) (xt v) (xq v) (xk v) (xl v) (xm v) (xc v)) (hw sa ca (hS v i 3))) [] (fun H locs hI => ?_) (fun hj332 => ?_)
                    · refine lv_aload_n cx.1 cx.2.1 dL_isTold_332 rfl (lv_at hl 11 rfl) ?_
                      refine lv_iconst (v := 0) cx.1 cx.2.1 dL_isTold_333 (by decide) ?_
                      refine lr_c cx hI (vp_in_nI (n := 0) (by decide) (by decide)) dL_isTold_334 ?_
                      refine k_top (y := xp v) rfl ?_
                      refine lv_iconst (v := 2) cx.1 cx.2.1 dL_isTold_335 (by decide) ?_
                      refine k_join (D := D) (A := A) 376 (lw ad oa cb ca v (lO v) (lK (xp v) (xt v) (xq v) (xk v) (xl v) (xm v) (xc v)) (hw sa ca (hS v i 3))) [] (fun H locs hI => ?_) (fun hj376 => ?_)
                      · refine lv_iconst (v := 1) cx.1 cx.2.1 dL_isTold_376 (by decide) ?_
                        refine lv_goto (tgt := 381) cx.1 cx.2.1 dL_isTold_377 (by decide) ?_
                        refine lv_istore (lv' := [(7, .int 1), (11, .int (nI 3)), (8, .int (nI i)), (3, .int (xRows v i + b2i (xSeen v (nI i)))), (4, .int (xShRows v i + b2i (xSh v (nI i)))), (5, .int (zBe v i + b2i (!decide (xp v = 0) && xBeh v (nI i)))), (6, .ref sa), (9, .int (b2i (xSeen v (nI i)))), (10, .int (b2i (xSh v (nI i)))), (0, .ref (ad 0)), (1, .ref oa), (2, .ref cb)]) cx.1 cx.2.1 dL_isTold_381 hl (by decide) rfl (fun ls hl => ?_)
                        refine lv_iinc (v := nI (i + 1)) (lv' := [(8, .int (nI (i + 1))), (7, .int 1), (11, .int (nI 3)), (3, .int (xRows v i + b2i (xSeen v (nI i)))), (4, .int (xShRows v i + b2i (xSh v (nI i)))), (5, .int (zBe v i + b2i (!decide (xp v = 0) && xBeh v (nI i)))), (6, .ref sa), (9, .int (b2i (xSeen v (nI i)))), (10, .int (b2i (xSh v (nI i)))), (0, .ref (ad 0)), (1, .ref oa), (2, .ref cb)]) cx.1 cx.2.1 dL_isTold_383 hl (k := 2) rfl (nI_1 i) (by decide) rfl (fun ls hl => ?_)
                        refine lv_goto (tgt := 65) cx.1 cx.2.1 dL_isTold_386 (by decide) ?_
                        refine ih _ _ _ ?_ ?_
                        · show KI D A (lw ad oa cb ca v (lO v) (lK (xp v) (xt v) (xq v) (xk v) (xl v) (xm v) (xc v)) (hw sa ca (hS v (i + 1) 0))) s.heap _ _
                          rw [hS_next]
                          exact hI
                        · show lv_has _ _ [(8, .int (nI (i + 1))), (3, .int (xRows v (i + 1))), (4, .int (xShRows v (i + 1))), (5, .int (zBe v (i + 1))), (6, .ref sa), (7, .int 1), (0, .ref (ad 0)), (1, .ref oa), (2, .ref cb)]
                          exact lv_sub hl [0, 3, 4, 5, 6, 1, 9, 10, 11] rfl
                      ·
                        refine lv_icmp_ne (tgt := 376) cx.1 cx.2.1 dL_isTold_336 (by decide) (fun c_15 => ?_) (fun c_15 => ?_)
                        · exact hj376 _ _ hI
                        · refine lv_aload_n cx.1 cx.2.1 dL_isTold_339 rfl (lv_at hl 9 rfl) ?_
                          refine lv_aload_n cx.1 cx.2.1 dL_isTold_340 rfl (lv_at hl 10 rfl) ?_
                          refine lv_aload_n cx.1 cx.2.1 dL_isTold_341 rfl (lv_at hl 11 rfl) ?_
                          refine lv_iload cx.1 cx.2.1 dL_isTold_342 (lv_at hl 1 rfl) ?_
                          refine lc_w 4 cx (hl.1.trans hml.symm) (kL_isEven l D ca ad oa cb v (lO v) (xp v) (xt v) (xq v) (xk v) (xl v) (xm v) (xc v) hi (hA i hi) rfl rfl rfl) hI wk_388 wk_386 wk_387 wk_0 ⟨by decide, by decide, by decide +kernel⟩ rfl ⟨rfl, rfl⟩ ⟨Nat.le_of_ble_eq_true rfl, Nat.le_of_ble_eq_true rfl⟩ (Nat.le_of_ble_eq_true rfl) dL_isTold_344 ⟨Nat.le_of_ble_eq_true rfl, Nat.le_of_ble_eq_true rfl⟩ rfl (fun H locs hI => ?_)
                          refine kb_eq (tgt := 380) cx dL_isTold_347 (by decide) (fun h9 => absurd h9 (by rw [(told_cut hX hi c_15).1]; decide)) (fun _ => ?_)
                          refine lv_aload_n cx.1 cx.2.1 dL_isTold_350 rfl (lv_at hl 9 rfl) ?_
                          refine lv_iload cx.1 cx.2.1 dL_isTold_351 (lv_at hl 1 rfl) ?_
                          refine lc_i 1 cx (hl.1.trans hml.symm) (kS_isRefused l D ca ad v (nI i) (hz_of hX.1) (vp_in_nI hi (by decide))) hI wk_392 wk_389 wk_390 wk_391 ⟨rfl, by decide +kernel⟩ rfl ⟨rfl, rfl⟩ ⟨Nat.le_of_ble_eq_true rfl, Nat.le_of_ble_eq_true rfl⟩ (Nat.le_of_ble_eq_true rfl) dL_isTold_353 ⟨Nat.le_of_ble_eq_true rfl, Nat.le_of_ble_eq_true rfl⟩ rfl (fun H locs hI => ?_)
                          refine k_top (y := xR v i) (congrArg (xR v) (kx hi)) ?_
                          refine lv_aload_n cx.1 cx.2.1 dL_isTold_356 rfl (lv_at hl 10 rfl) ?_
                          refine lv_iload cx.1 cx.2.1 dL_isTold_357 (lv_at hl 1 rfl) ?_
                          refine lr_on cx hI hi dL_isTold_359 ?_
                          refine k_join (D := D) (A := A) 373 (lw ad oa cb ca v (lO v) (lK (xp v) (xt v) (xq v) (xk v) (xl v) (xm v) (xc v)) (hw sa ca (hS v i 3))) [.int (b2i (xOld v (nI i) && !xSh v (nI i))), .int (xR v i)] (fun H locs hI => ?_) (fun hj373 => ?_)
                          · refine lv_icmp_ne (tgt := 380) cx.1 cx.2.1 dL_isTold_373 (by decide) (fun h9 => absurd h9 (fun q => q (told_cut hX hi c_15).2)) (fun _ => ?_)
                            exact hj376 _ _ hI
                          ·
                            refine lv_if_lt (tgt := 372) cx.1 cx.2.1 dL_isTold_360 (by decide) (fun c_18 => ?_) (fun c_18 => ?_)
                            · refine lv_iconst (v := 0) cx.1 cx.2.1 dL_isTold_372 (by decide) ?_
                              exact k_top (by first | exact ref_a (lO_lt hi (hA i hi) c_18) | exact ref_b c_18) (hj373 _ _ hI)
                            · refine lv_iload cx.1 cx.2.1 dL_isTold_363 (lv_at hl 8 rfl) ?_
                              refine kb_ne (tgt := 372) cx dL_isTold_365 (by decide) (fun c_19 => ?_) (fun c_19 => ?_)
                              · refine lv_iconst (v := 0) cx.1 cx.2.1 dL_isTold_372 (by decide) ?_
                                exact k_top (by first | exact ref_a (lO_lt hi (hA i hi) c_19) | exact ref_b c_19) (hj373 _ _ hI)
                              · refine lv_iconst (v := 1) cx.1 cx.2.1 dL_isTold_368 (by decide) ?_
                                refine lv_goto (tgt := 373) cx.1 cx.2.1 dL_isTold_369 (by decide) ?_
                                exact k_top (ref_c (lO_ge hi (hA i hi) c_18) c_19) (hj373 _ _ hI)
                    ·
                      refine kb_eq (tgt := 332) cx dL_isTold_320 (by decide) (fun c_20 => ?_) (fun c_20 => ?_)
                      · exact hj332 _ _ hI
                      · refine lv_aload_n cx.1 cx.2.1 dL_isTold_323 rfl (lv_at hl 9 rfl) ?_
                        refine lv_iload cx.1 cx.2.1 dL_isTold_324 (lv_at hl 1 rfl) ?_
                        refine lc_i 1 cx (hl.1.trans hml.symm) (kS_isRefused l D ca ad v (nI i) (hz_of hX.1) (vp_in_nI hi (by decide))) hI wk_392 wk_389 wk_390 wk_391 ⟨rfl, by decide +kernel⟩ rfl ⟨rfl, rfl⟩ ⟨Nat.le_of_ble_eq_true rfl, Nat.le_of_ble_eq_true rfl⟩ (Nat.le_of_ble_eq_true rfl) dL_isTold_326 ⟨Nat.le_of_ble_eq_true rfl, Nat.le_of_ble_eq_true rfl⟩ rfl (fun H locs hI => ?_)
                        refine k_top (y := xR v i) (congrArg (xR v) (kx hi)) ?_
                        refine lv_if_ne (tgt := 380) cx.1 cx.2.1 dL_isTold_329 (by decide) (fun h9 => absurd h9 (fun q => q (l_ref hi (hZ i hi) c_20))) (fun _ => ?_)
                        exact hj332 _ _ hI
                  ·
                    refine lv_if_gt (tgt := 318) cx.1 cx.2.1 dL_isTold_301 (by decide) (fun c_22 => ?_) (fun c_22 => ?_)
                    · exact hj318 _ _ hI
                    · refine lv_iload cx.1 cx.2.1 dL_isTold_304 (lv_at hl 8 rfl) ?_
                      refine kb_ne (tgt := 380) cx dL_isTold_306 (by decide) (fun h9 => absurd h9 (by rw [(told_idle hX hi c_22).1]; decide)) (fun _ => ?_)
                      refine lv_aload_n cx.1 cx.2.1 dL_isTold_309 rfl (lv_at hl 9 rfl) ?_
                      refine lv_iload cx.1 cx.2.1 dL_isTold_310 (lv_at hl 1 rfl) ?_
                      refine lc_i 1 cx (hl.1.trans hml.symm) (kS_isRefused l D ca ad v (nI i) (hz_of hX.1) (vp_in_nI hi (by decide))) hI wk_392 wk_389 wk_390 wk_391 ⟨rfl, by decide +kernel⟩ rfl ⟨rfl, rfl⟩ ⟨Nat.le_of_ble_eq_true rfl, Nat.le_of_ble_eq_true rfl⟩ (Nat.le_of_ble_eq_true rfl) dL_isTold_312 ⟨Nat.le_of_ble_eq_true rfl, Nat.le_of_ble_eq_true rfl⟩ rfl (fun H locs hI => ?_)
                      refine k_top (y := xR v i) (congrArg (xR v) (kx hi)) ?_
                      refine lv_if_ne (tgt := 380) cx.1 cx.2.1 dL_isTold_315 (by decide) (fun h9 => absurd h9 (fun q => q (told_idle hX hi c_22).2)) (fun _ => ?_)
                      exact hj318 _ _ hI
                ·
                  refine kb_eq (tgt := 294) cx dL_isTold_284 (by decide) (fun c_25 => ?_) (fun c_25 => ?_)
                  · refine lv_iconst (v := (-1)) cx.1 cx.2.1 dL_isTold_294 (by decide) ?_
                    exact k_top (if_neg (by rw [c_25]; decide)).symm (hj295 _ _ hI)
                  · refine lv_aload_n cx.1 cx.2.1 dL_isTold_287 rfl (lv_at hl 10 rfl) ?_
                    refine lv_iload cx.1 cx.2.1 dL_isTold_288 (lv_at hl 1 rfl) ?_
                    refine lr_on cx hI hi dL_isTold_290 ?_
                    refine lv_goto (tgt := 295) cx.1 cx.2.1 dL_isTold_291 (by decide) ?_
                    exact k_top ((lO_row hi (seen_old c_25)).trans (if_pos c_25).symm) (hj295 _ _ hI)
              · have hI : KI D A (lw ad oa cb ca v (lO v) (lK (xp v) (xt v) (xq v) (xk v) (xl v) (xm v) (xc v)) (hw sa ca (hS v i k))) s.heap H locs := hI
                have hl : lv_has ls 13 [(11, .int (nI k)), (8, .int (nI i)), (3, .int (xRows v i + b2i (xSeen v (nI i)))), (4, .int (xShRows v i + b2i (xSh v (nI i)))), (5, .int (zBe v i + b2i (!decide (xp v = 0) && xBeh v (nI i)))), (6, .ref sa), (7, .int 1), (9, .int (b2i (xSeen v (nI i)))), (10, .int (b2i (xSh v (nI i)))), (0, .ref (ad 0)), (1, .ref oa), (2, .ref cb)] := hl
                refine lv_iload cx.1 cx.2.1 dL_isTold_162 (lv_at hl 0 rfl) ?_
                refine lv_iconst (v := 3) cx.1 cx.2.1 dL_isTold_164 (by decide) ?_
                refine lv_icmp_ge (tgt := 271) cx.1 cx.2.1 dL_isTold_165 (by decide) (fun h9 => absurd h9 (nI_ge hk (by decide))) (fun _ => ?_)
                refine lv_aload_n cx.1 cx.2.1 dL_isTold_168 rfl (lv_at hl 11 rfl) ?_
                refine lv_aload_n cx.1 cx.2.1 dL_isTold_169 rfl (lv_at hl 10 rfl) ?_
                refine lv_iload cx.1 cx.2.1 dL_isTold_170 (lv_at hl 1 rfl) ?_
                refine lr_on cx hI hi dL_isTold_172 ?_
                refine lv_iload cx.1 cx.2.1 dL_isTold_173 (lv_at hl 0 rfl) ?_
                refine lc_c 3 cx (hl.1.trans hml.symm) (kL_altered l D ca cb (lK (xp v) (xt v) (xq v) (xk v) (xl v) (xm v) (xc v)) ((lO v) i) (nI k)) hI wk_167 wk_165 wk_166 wk_0 ⟨by decide, by decide, by decide +kernel⟩ rfl ⟨rfl, rfl⟩ ⟨Nat.le_of_ble_eq_true rfl, Nat.le_of_ble_eq_true rfl⟩ (Nat.le_of_ble_eq_true rfl) dL_isTold_175 ⟨Nat.le_of_ble_eq_true rfl, Nat.le_of_ble_eq_true rfl⟩ rfl (fun H locs hI => ?_)
                refine k_top (y := xBro v (nI i) (nI k)) (lAlt_bro hi (hA i hi) (nI k)) ?_
                refine lv_istore (lv' := [(12, .int (xBro v (nI i) (nI k))), (11, .int (nI k)), (8, .int (nI i)), (3, .int (xRows v i + b2i (xSeen v (nI i)))), (4, .int (xShRows v i + b2i (xSh v (nI i)))), (5, .int (zBe v i + b2i (!decide (xp v = 0) && xBeh v (nI i)))), (6, .ref sa), (7, .int 1), (9, .int (b2i (xSeen v (nI i)))), (10, .int (b2i (xSh v (nI i)))), (0, .ref (ad 0)), (1, .ref oa), (2, .ref cb)]) cx.1 cx.2.1 dL_isTold_178 hl (by decide) rfl (fun ls hl => ?_)
                refine lv_aload cx.1 cx.2.1 dL_isTold_180 (lv_at hl 6 rfl) ?_
                refine lv_iload cx.1 cx.2.1 dL_isTold_182 (lv_at hl 1 rfl) ?_
                refine lv_dup2_11 cx.1 cx.2.1 dL_isTold_184 rfl rfl ?_
                refine lr_hn cx hI (by omega) dL_isTold_185 ?_
                refine lv_iload cx.1 cx.2.1 dL_isTold_186 (lv_at hl 9 rfl) ?_
                refine k_join (D := D) (A := A) 203 (lw ad oa cb ca v (lO v) (lK (xp v) (xt v) (xq v) (xk v) (xl v) (xm v) (xc v)) (hw sa ca (hS v i k))) [.int (zSu v k i), .int ((hS v i k) k), .int (nI k), .ref sa] (fun H locs hI => ?_) (fun hj203 => ?_)
                · refine lv_iadd cx.1 cx.2.1 dL_isTold_203 ?_
                  refine ls_hn cx hI (by omega) dL_isTold_204 (fun H locs hI => ?_)
                  refine lv_aload cx.1 cx.2.1 dL_isTold_205 (lv_at hl 6 rfl) ?_
                  refine lv_iconst (v := 3) cx.1 cx.2.1 dL_isTold_207 (by decide) ?_
                  refine lv_iload cx.1 cx.2.1 dL_isTold_208 (lv_at hl 1 rfl) ?_
                  refine lv_iadd cx.1 cx.2.1 dL_isTold_210 ?_
                  refine k_top (y := nI (k + 3)) (n3k k) ?_
                  refine lv_dup2_11 cx.1 cx.2.1 dL_isTold_211 rfl rfl ?_
                  refine lr_hn cx hI (by omega) dL_isTold_212 ?_
                  refine lv_aload_n cx.1 cx.2.1 dL_isTold_213 rfl (lv_at hl 12 rfl) ?_
                  refine lv_iconst (v := 0) cx.1 cx.2.1 dL_isTold_214 (by decide) ?_
                  refine lr_c cx hI (vp_in_nI (n := 0) (by decide) (by decide)) dL_isTold_215 ?_
                  refine k_top (y := xp v) rfl ?_
                  refine k_join (D := D) (A := A) 230 (lw ad oa cb ca v (lO v) (lK (xp v) (xt v) (xq v) (xk v) (xl v) (xm v) (xc v)) (hw sa ca (upd (hS v i k) k (((hS v i k) k) + (zSu v k i))))) [.int (zDu v (nI k) i), .int ((upd (hS v i k) k (((hS v i k) k) + (zSu v k i))) (k + 3)), .int (nI (k + 3)), .ref sa] (fun H locs hI => ?_) (fun hj230 => ?_)
                  · refine lv_iadd cx.1 cx.2.1 dL_isTold_230 ?_
                    refine ls_hn cx hI (by omega) dL_isTold_231 (fun H locs hI => ?_)
                    refine lv_iload cx.1 cx.2.1 dL_isTold_232 (lv_at hl 7 rfl) ?_
                    refine lv_if_eq (tgt := 262) cx.1 cx.2.1 dL_isTold_234 (by decide) (fun h9 => absurd h9 (by decide)) (fun _ => ?_)
                    refine lv_aload_n cx.1 cx.2.1 dL_isTold_237 rfl (lv_at hl 10 rfl) ?_
                    refine lv_iload cx.1 cx.2.1 dL_isTold_238 (lv_at hl 2 rfl) ?_
                    refine lv_iload cx.1 cx.2.1 dL_isTold_240 (lv_at hl 1 rfl) ?_
                    refine lc_i 2 cx (hl.1.trans hml.symm) (kS_shadow l D ca ad v (nI i) (nI k) (vp_in_nI hi (by decide)) (vp_in_nI hk (by decide))) hI wk_86 wk_83 wk_84 wk_85 ⟨rfl, by decide +kernel⟩ rfl ⟨rfl, rfl⟩ ⟨Nat.le_of_ble_eq_true rfl, Nat.le_of_ble_eq_true rfl⟩ (Nat.le_of_ble_eq_true rfl) dL_isTold_242 ⟨Nat.le_of_ble_eq_true rfl, Nat.le_of_ble_eq_true rfl⟩ rfl (fun H locs hI => ?_)
                    refine k_top (y := xC v k i) (by rw [kx hi, (k3n hk).1]) ?_
                    refine k_join (D := D) (A := A) 253 (lw ad oa cb ca v (lO v) (lK (xp v) (xt v) (xq v) (xk v) (xl v) (xm v) (xc v)) (hw sa ca (upd (upd (hS v i k) k (((hS v i k) k) + (zSu v k i))) (k + 3) (((upd (hS v i k) k (((hS v i k) k) + (zSu v k i))) (k + 3)) + (zDu v (nI k) i))))) [.int (b2i (xSh v (nI i)))] (fun H locs hI => ?_) (fun hj253 => ?_)
                    · refine lv_iload cx.1 cx.2.1 dL_isTold_253 (lv_at hl 9 rfl) ?_
                      refine lv_icmp_ne (tgt := 262) cx.1 cx.2.1 dL_isTold_255 (by decide) (fun h9 => absurd h9 (fun q => q rfl)) (fun _ => ?_)
                      refine lv_iconst (v := 1) cx.1 cx.2.1 dL_isTold_258 (by decide) ?_
                      refine lv_goto (tgt := 263) cx.1 cx.2.1 dL_isTold_259 (by decide) ?_
                      refine lv_istore (lv' := [(7, .int 1), (12, .int (xBro v (nI i) (nI k))), (11, .int (nI k)), (8, .int (nI i)), (3, .int (xRows v i + b2i (xSeen v (nI i)))), (4, .int (xShRows v i + b2i (xSh v (nI i)))), (5, .int (zBe v i + b2i (!decide (xp v = 0) && xBeh v (nI i)))), (6, .ref sa), (9, .int (b2i (xSeen v (nI i)))), (10, .int (b2i (xSh v (nI i)))), (0, .ref (ad 0)), (1, .ref oa), (2, .ref cb)]) cx.1 cx.2.1 dL_isTold_263 hl (by decide) rfl (fun ls hl => ?_)
                      refine lv_iinc (v := nI (k + 1)) (lv' := [(11, .int (nI (k + 1))), (7, .int 1), (12, .int (xBro v (nI i) (nI k))), (8, .int (nI i)), (3, .int (xRows v i + b2i (xSeen v (nI i)))), (4, .int (xShRows v i + b2i (xSh v (nI i)))), (5, .int (zBe v i + b2i (!decide (xp v = 0) && xBeh v (nI i)))), (6, .ref sa), (9, .int (b2i (xSeen v (nI i)))), (10, .int (b2i (xSh v (nI i)))), (0, .ref (ad 0)), (1, .ref oa), (2, .ref cb)]) cx.1 cx.2.1 dL_isTold_265 hl (k := 2) rfl (nI_1 k) (by decide) rfl (fun ls hl => ?_)
                      refine lv_goto (tgt := 162) cx.1 cx.2.1 dL_isTold_268 (by decide) ?_
                      refine ih _ _ _ ?_ ?_
                      · show KI D A (lw ad oa cb ca v (lO v) (lK (xp v) (xt v) (xq v) (xk v) (xl v) (xm v) (xc v)) (hw sa ca (hS v i (k + 1)))) s.heap _ _
                        rw [hS_step v hi hk]
                        exact hI
                      · show lv_has _ _ [(11, .int (nI (k + 1))), (8, .int (nI i)), (3, .int (xRows v i + b2i (xSeen v (nI i)))), (4, .int (xShRows v i + b2i (xSh v (nI i)))), (5, .int (zBe v i + b2i (!decide (xp v = 0) && xBeh v (nI i)))), (6, .ref sa), (7, .int 1), (9, .int (b2i (xSeen v (nI i)))), (10, .int (b2i (xSh v (nI i)))), (0, .ref (ad 0)), (1, .ref oa), (2, .ref cb)]
                        exact lv_sub hl [0, 3, 4, 5, 6, 7, 1, 8, 9, 10, 11, 12] rfl
                    ·
                      refine lv_if_lt (tgt := 252) cx.1 cx.2.1 dL_isTold_245 (by decide) (fun c_28 => ?_) (fun c_28 => ?_)
                      · refine lv_iconst (v := 0) cx.1 cx.2.1 dL_isTold_252 (by decide) ?_
                        exact k_top (congrArg b2i (l_sh_lt hi (hZ i hi) hk c_28)).symm (hj253 _ _ hI)
                      · refine lv_iconst (v := 1) cx.1 cx.2.1 dL_isTold_248 (by decide) ?_
                        refine lv_goto (tgt := 253) cx.1 cx.2.1 dL_isTold_249 (by decide) ?_
                        exact k_top (congrArg b2i (l_sh_ge hi (hZ i hi) hk c_28)).symm (hj253 _ _ hI)
                  ·
                    refine lv_if_eq (tgt := 224) cx.1 cx.2.1 dL_isTold_216 (by decide) (fun c_29 => ?_) (fun c_29 => ?_)
                    · refine lv_iconst (v := 0) cx.1 cx.2.1 dL_isTold_224 (by decide) ?_
                      refine lv_goto (tgt := 230) cx.1 cx.2.1 dL_isTold_225 (by decide) ?_
                      exact k_top (by first | exact du_0 c_29 | exact du_n hX.1.2.1 hi (hA i hi) c_29 c_29) (hj230 _ _ hI)
                    · refine lv_iload cx.1 cx.2.1 dL_isTold_219 (lv_at hl 0 rfl) ?_
                      refine lv_if_ge (tgt := 228) cx.1 cx.2.1 dL_isTold_221 (by decide) (fun c_30 => ?_) (fun c_30 => ?_)
                      · refine lv_iload cx.1 cx.2.1 dL_isTold_228 (lv_at hl 0 rfl) ?_
                        exact k_top (du_p c_29 c_30) (hj230 _ _ hI)
                      · refine lv_iconst (v := 0) cx.1 cx.2.1 dL_isTold_224 (by decide) ?_
                        refine lv_goto (tgt := 230) cx.1 cx.2.1 dL_isTold_225 (by decide) ?_
                        exact k_top (by first | exact du_0 c_30 | exact du_n hX.1.2.1 hi (hA i hi) c_29 c_30) (hj230 _ _ hI)
                ·
                  refine kb_eq (tgt := 202) cx dL_isTold_188 (by decide) (fun c_31 => ?_) (fun c_31 => ?_)
                  · refine lv_iconst (v := 0) cx.1 cx.2.1 dL_isTold_202 (by decide) ?_
                    exact k_top (su_f c_31) (hj203 _ _ hI)
                  · refine lv_aload_n cx.1 cx.2.1 dL_isTold_191 rfl (lv_at hl 10 rfl) ?_
                    refine lv_iload cx.1 cx.2.1 dL_isTold_192 (lv_at hl 2 rfl) ?_
                    refine lv_iload cx.1 cx.2.1 dL_isTold_194 (lv_at hl 1 rfl) ?_
                    refine lc_i 2 cx (hl.1.trans hml.symm) (kS_shadow l D ca ad v (nI i) (nI k) (vp_in_nI hi (by decide)) (vp_in_nI hk (by decide))) hI wk_86 wk_83 wk_84 wk_85 ⟨rfl, by decide +kernel⟩ rfl ⟨rfl, rfl⟩ ⟨Nat.le_of_ble_eq_true rfl, Nat.le_of_ble_eq_true rfl⟩ (Nat.le_of_ble_eq_true rfl) dL_isTold_196 ⟨Nat.le_of_ble_eq_true rfl, Nat.le_of_ble_eq_true rfl⟩ rfl (fun H locs hI => ?_)
                    refine k_top (y := xC v k i) (by rw [kx hi, (k3n hk).1]) ?_
                    refine lv_goto (tgt := 203) cx.1 cx.2.1 dL_isTold_199 (by decide) ?_
                    exact k_top (su_t c_31) (hj203 _ _ hI)
            ·
              refine lv_if_eq (tgt := 151) cx.1 cx.2.1 dL_isTold_137 (by decide) (fun c_32 => ?_) (fun c_32 => ?_)
              · refine lv_iconst (v := 0) cx.1 cx.2.1 dL_isTold_151 (by decide) ?_
                refine lv_goto (tgt := 156) cx.1 cx.2.1 dL_isTold_152 (by decide) ?_
                exact k_top (by first | exact beh_1 c_32 | exact beh_2 c_32) (hj156 _ _ hI)
              · refine lv_aload_n cx.1 cx.2.1 dL_isTold_140 rfl (lv_at hl 8 rfl) ?_
                refine lv_aload_n cx.1 cx.2.1 dL_isTold_141 rfl (lv_at hl 9 rfl) ?_
                refine lv_aload_n cx.1 cx.2.1 dL_isTold_142 rfl (lv_at hl 10 rfl) ?_
                refine lv_iload cx.1 cx.2.1 dL_isTold_143 (lv_at hl 4 rfl) ?_
                refine lc_w 4 cx (hl.1.trans hml.symm) (kL_isEven l D ca ad oa cb v (lO v) (xp v) (xt v) (xq v) (xk v) (xl v) (xm v) (xc v) hi (hA i hi) rfl rfl rfl) hI wk_388 wk_386 wk_387 wk_0 ⟨by decide, by decide, by decide +kernel⟩ rfl ⟨rfl, rfl⟩ ⟨Nat.le_of_ble_eq_true rfl, Nat.le_of_ble_eq_true rfl⟩ (Nat.le_of_ble_eq_true rfl) dL_isTold_145 ⟨Nat.le_of_ble_eq_true rfl, Nat.le_of_ble_eq_true rfl⟩ rfl (fun H locs hI => ?_)
                refine kb_eq (tgt := 155) cx dL_isTold_148 (by decide) (fun c_33 => ?_) (fun c_33 => ?_)
                · refine lv_iconst (v := 1) cx.1 cx.2.1 dL_isTold_155 (by decide) ?_
                  exact k_top (beh_3 c_32 c_33) (hj156 _ _ hI)
                · refine lv_iconst (v := 0) cx.1 cx.2.1 dL_isTold_151 (by decide) ?_
                  refine lv_goto (tgt := 156) cx.1 cx.2.1 dL_isTold_152 (by decide) ?_
                  exact k_top (by first | exact beh_1 c_33 | exact beh_2 c_33) (hj156 _ _ hI)
          ·
            refine kb_eq (tgt := 128) cx dL_isTold_121 (by decide) (fun c_34 => ?_) (fun c_34 => ?_)
            · refine lv_iconst (v := 0) cx.1 cx.2.1 dL_isTold_128 (by decide) ?_
              exact k_top (congrArg b2i c_34).symm (hj129 _ _ hI)
            · refine lv_iconst (v := 1) cx.1 cx.2.1 dL_isTold_124 (by decide) ?_
              refine lv_goto (tgt := 129) cx.1 cx.2.1 dL_isTold_125 (by decide) ?_
              exact k_top (congrArg b2i c_34).symm (hj129 _ _ hI)
        ·
          refine kb_eq (tgt := 114) cx dL_isTold_107 (by decide) (fun c_35 => ?_) (fun c_35 => ?_)
          · refine lv_iconst (v := 0) cx.1 cx.2.1 dL_isTold_114 (by decide) ?_
            exact k_top (congrArg b2i c_35).symm (hj115 _ _ hI)
          · refine lv_iconst (v := 1) cx.1 cx.2.1 dL_isTold_110 (by decide) ?_
            refine lv_goto (tgt := 115) cx.1 cx.2.1 dL_isTold_111 (by decide) ?_
            exact k_top (congrArg b2i c_35).symm (hj115 _ _ hI)
      ·
        refine lv_if_lt (tgt := 101) cx.1 cx.2.1 dL_isTold_94 (by decide) (fun c_36 => ?_) (fun c_36 => ?_)
        · refine lv_iconst (v := 0) cx.1 cx.2.1 dL_isTold_101 (by decide) ?_
          exact k_top (congrArg b2i (l_sh_lt hi (hZ i hi) (by decide) c_36)).symm (hj102 _ _ hI)
        · refine lv_iconst (v := 1) cx.1 cx.2.1 dL_isTold_97 (by decide) ?_
          refine lv_goto (tgt := 102) cx.1 cx.2.1 dL_isTold_98 (by decide) ?_
          exact k_top (congrArg b2i (l_sh_ge hi (hZ i hi) (by decide) c_36)).symm (hj102 _ _ hI)
  ·
    refine lv_if_ne (tgt := 38) cx.1 cx.2.1 dL_isTold_31 (by decide) (fun c_37 => ?_) (fun c_37 => ?_)
    · refine lv_aload_n cx.1 cx.2.1 dL_isTold_38 rfl (lv_at hl 6 rfl) ?_
      refine lv_iconst (v := 5) cx.1 cx.2.1 dL_isTold_39 (by decide) ?_
      refine lr_c cx hI (vp_in_nI (n := 5) (by decide) (by decide)) dL_isTold_40 ?_
      refine k_top (y := xm v) rfl ?_
      exact k_top (by simp [c_37]) (hj41 _ _ hI)
    · refine lv_iconst (v := (-1)) cx.1 cx.2.1 dL_isTold_34 (by decide) ?_
      refine lv_goto (tgt := 41) cx.1 cx.2.1 dL_isTold_35 (by decide) ?_
      exact k_top (by simp [c_37]) (hj41 _ _ hI)

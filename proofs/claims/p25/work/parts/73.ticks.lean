/-! MINE: the law's ticks. -/
theorem bno {b : Bool} (h9 : b = false) (h : b = true) : False := Bool.noConfusion (h9.symm.trans h)
theorem bno2 {b : Bool} (h9 : b = true) (h : b = false) : False := Bool.noConfusion (h9.symm.trans h)
set_option maxHeartbeats 4000000 in
set_option maxRecDepth 100000 in
theorem kL_ticks_a (l : Launch) (D : va_G) (ca : Nat → ClassId) (ad : Nat → Nat) (oa cb : Nat) {v : XS} {n c1 m1 ch g : Nat} (hX : zX zE n c1 m1 v) (hn : n + 2 ≤ 1000) (hk : xk v = nI ch) (hc1 : 1 ≤ ch) (hc : ch ≤ 40) (hg : g < 40) (hp : ¬ xp v = 1) (hlS : l.stackTraces = false) : CG l yL_ticks cL_ticks 9 (some .boolean) { frames := 9, cells := 1, slots := 6, locals := 201 } D ca (lw ad oa cb ca v (lO v) (lC v) []) [.ref (ad 0), .int (nI g), .ref oa, .ref cb] (some (.int 1)) (LW (n + 2) ad oa cb ca) 1 6 := by
  refine CG.of (by decide) (Nat.le_of_ble_eq_true rfl) ?_
  intro p e s m below meth c0 A ls cx hml hr hlk hE hI hl
  have hl : lv_has ls 9 [(0, .ref (ad 0)), (1, .int (nI g)), (2, .ref oa), (3, .ref cb)] := hl
  have hI : KI D A (lw ad oa cb ca v (lO v) (lK (xp v) (xt v) (xq v) (xk v) (xl v) (xm v) (xc v)) []) s.heap s.heap [] := hI
  have hn1 := hX.2.1.1
  have hM := tick_a l D ca ad hX (by omega) hk hc hg hp hlS
  refine lv_aload_n cx.1 cx.2.1 dL_ticks_0 rfl (lv_at hl 0 rfl) ?_
  refine lv_iconst (v := 4) cx.1 cx.2.1 dL_ticks_1 (by decide) ?_
  refine lv_iload_n cx.1 cx.2.1 dL_ticks_2 rfl (lv_at hl 1 rfl) ?_
  refine lv_iconst (v := 0) cx.1 cx.2.1 dL_ticks_3 (by decide) ?_
  refine lv_iconst (v := 0) cx.1 cx.2.1 dL_ticks_4 (by decide) ?_
  refine lc_h 5 cx hE (hl.1.trans hml.symm) hM hI wk_213 wk_211 wk_212 wk_0 ⟨by decide, by decide, by decide +kernel⟩ rfl ⟨rfl, rfl⟩ ⟨Nat.le_of_ble_eq_true rfl, Nat.le_of_ble_eq_true rfl⟩ (Nat.le_of_ble_eq_true rfl) dL_ticks_5 ⟨Nat.le_of_ble_eq_true rfl, Nat.le_of_ble_eq_true rfl⟩ rfl (fun H locs hI => ?_)
  refine lv_istore (lv' := [(4, .int (-8)), (0, .ref (ad 0)), (1, .int (nI g)), (2, .ref oa), (3, .ref cb)]) cx.1 cx.2.1 dL_ticks_8 hl (by decide) rfl (fun ls hl => ?_)
  refine lv_aload_n cx.1 cx.2.1 dL_ticks_10 rfl (lv_at hl 4 rfl) ?_
  refine lv_iconst (v := 0) cx.1 cx.2.1 dL_ticks_11 (by decide) ?_
  refine lr_c cx hI (vp_in_nI (n := 0) (by decide) (by decide)) dL_ticks_12 ?_
  refine k_top (y := xp v) rfl ?_
  refine lv_iconst (v := 1) cx.1 cx.2.1 dL_ticks_13 (by decide) ?_
  refine lv_icmp_eq (tgt := 30) cx.1 cx.2.1 dL_ticks_14 (by decide) (fun h9 => absurd h9 hp) (fun _ => ?_)
  refine lv_iload cx.1 cx.2.1 dL_ticks_17 (lv_at hl 0 rfl) ?_
  refine lv_bipush (v := (-8)) cx.1 cx.2.1 dL_ticks_19 (by decide) ?_
  refine lv_icmp_ne (tgt := 28) cx.1 cx.2.1 dL_ticks_21 (by decide) (fun h9 => absurd (by decide) h9) (fun _ => ?_)
  refine lv_iconst (v := 1) cx.1 cx.2.1 dL_ticks_24 (by decide) ?_
  refine lv_goto (tgt := 29) cx.1 cx.2.1 dL_ticks_25 (by decide) ?_
  exact ke_g (lw ad oa cb ca v (lO v) (lK (xp v) (xt v) (xq v) (xk v) (xl v) (xm v) (xc v)) []) [] cx hr hlk hI (Nat.le_of_ble_eq_true rfl) (Nat.le_of_ble_eq_true rfl) dL_ticks_29 rfl rfl ⟨v, ⟨c1, m1, hX.mono (fun _ q => q) (by omega)⟩, lw_eq rfl rfl⟩
set_option maxHeartbeats 4000000 in
set_option maxRecDepth 100000 in
theorem kL_ticks_b (l : Launch) (D : va_G) (ca : Nat → ClassId) (ad : Nat → Nat) (oa cb : Nat) {v : XS} {n c1 m1 ch g : Nat} (hX : zX zE n c1 m1 v) (hn : n + 2 ≤ 1000) (hk : xk v = nI ch) (hc1 : 1 ≤ ch) (hc : ch ≤ 40) (hg : g < 40) (hp : xp v = 1) (hlg : ¬ nI g ≤ xl v) (hlS : l.stackTraces = false) : CG l yL_ticks cL_ticks 9 (some .boolean) { frames := 9, cells := 1, slots := 6, locals := 201 } D ca (lw ad oa cb ca v (lO v) (lC v) []) [.ref (ad 0), .int (nI g), .ref oa, .ref cb] (some (.int 1)) (LW (n + 2) ad oa cb ca) 1 6 := by
  refine CG.of (by decide) (Nat.le_of_ble_eq_true rfl) ?_
  intro p e s m below meth c0 A ls cx hml hr hlk hE hI hl
  have hl : lv_has ls 9 [(0, .ref (ad 0)), (1, .int (nI g)), (2, .ref oa), (3, .ref cb)] := hl
  have hI : KI D A (lw ad oa cb ca v (lO v) (lK (xp v) (xt v) (xq v) (xk v) (xl v) (xm v) (xc v)) []) s.heap s.heap [] := hI
  have hn1 := hX.2.1.1
  have hM := tick_b l D ca ad hX (by omega) hk hc hg hp hlg hlS
  refine lv_aload_n cx.1 cx.2.1 dL_ticks_0 rfl (lv_at hl 0 rfl) ?_
  refine lv_iconst (v := 4) cx.1 cx.2.1 dL_ticks_1 (by decide) ?_
  refine lv_iload_n cx.1 cx.2.1 dL_ticks_2 rfl (lv_at hl 1 rfl) ?_
  refine lv_iconst (v := 0) cx.1 cx.2.1 dL_ticks_3 (by decide) ?_
  refine lv_iconst (v := 0) cx.1 cx.2.1 dL_ticks_4 (by decide) ?_
  refine lc_h 5 cx hE (hl.1.trans hml.symm) hM hI wk_213 wk_211 wk_212 wk_0 ⟨by decide, by decide, by decide +kernel⟩ rfl ⟨rfl, rfl⟩ ⟨Nat.le_of_ble_eq_true rfl, Nat.le_of_ble_eq_true rfl⟩ (Nat.le_of_ble_eq_true rfl) dL_ticks_5 ⟨Nat.le_of_ble_eq_true rfl, Nat.le_of_ble_eq_true rfl⟩ rfl (fun H locs hI => ?_)
  refine lv_istore (lv' := [(4, .int 0), (0, .ref (ad 0)), (1, .int (nI g)), (2, .ref oa), (3, .ref cb)]) cx.1 cx.2.1 dL_ticks_8 hl (by decide) rfl (fun ls hl => ?_)
  refine lv_aload_n cx.1 cx.2.1 dL_ticks_10 rfl (lv_at hl 4 rfl) ?_
  refine lv_iconst (v := 0) cx.1 cx.2.1 dL_ticks_11 (by decide) ?_
  refine lr_c cx hI (vp_in_nI (n := 0) (by decide) (by decide)) dL_ticks_12 ?_
  refine k_top (y := xp v) rfl ?_
  refine lv_iconst (v := 1) cx.1 cx.2.1 dL_ticks_13 (by decide) ?_
  refine lv_icmp_eq (tgt := 30) cx.1 cx.2.1 dL_ticks_14 (by decide) (fun _ => ?_) (fun h9 => absurd hp h9)
  refine lv_iload_n cx.1 cx.2.1 dL_ticks_30 rfl (lv_at hl 2 rfl) ?_
  refine lv_aload_n cx.1 cx.2.1 dL_ticks_31 rfl (lv_at hl 4 rfl) ?_
  refine lv_iconst (v := 4) cx.1 cx.2.1 dL_ticks_32 (by decide) ?_
  refine lr_c cx hI (vp_in_nI (n := 4) (by decide) (by decide)) dL_ticks_33 ?_
  refine k_top (y := xl v) rfl ?_
  refine lv_icmp_le (tgt := 48) cx.1 cx.2.1 dL_ticks_34 (by decide) (fun h9 => absurd h9 hlg) (fun _ => ?_)
  refine lv_iload cx.1 cx.2.1 dL_ticks_37 (lv_at hl 0 rfl) ?_
  refine lv_if_ne (tgt := 46) cx.1 cx.2.1 dL_ticks_39 (by decide) (fun h9 => absurd (by decide) h9) (fun _ => ?_)
  refine lv_iconst (v := 1) cx.1 cx.2.1 dL_ticks_42 (by decide) ?_
  refine lv_goto (tgt := 47) cx.1 cx.2.1 dL_ticks_43 (by decide) ?_
  exact ke_g (lw ad oa cb ca v (lO v) (lK (xp v) (xt v) (xq v) (xk v) (xl v) (xm v) (xc v)) []) [] cx hr hlk hI (Nat.le_of_ble_eq_true rfl) (Nat.le_of_ble_eq_true rfl) dL_ticks_47 rfl rfl ⟨v, ⟨c1, m1, hX.mono (fun _ q => q) (by omega)⟩, lw_eq rfl rfl⟩
set_option maxHeartbeats 4000000 in
set_option maxRecDepth 100000 in
theorem kL_ticks_c (l : Launch) (D : va_G) (ca : Nat → ClassId) (ad : Nat → Nat) (oa cb : Nat) {v : XS} {n c1 m1 ch g : Nat} (hX : zX zE n c1 m1 v) (hn : n + 2 ≤ 1000) (hk : xk v = nI ch) (hc1 : 1 ≤ ch) (hc : ch ≤ 40) (hg : g < 40) (hp : xp v = 1) (hlg : nI g ≤ xl v) (hm : m1 < 40) (hlS : l.stackTraces = false) : CG l yL_ticks cL_ticks 9 (some .boolean) { frames := 9, cells := 1, slots := 6, locals := 201 } D ca (lw ad oa cb ca v (lO v) (lC v) []) [.ref (ad 0), .int (nI g), .ref oa, .ref cb] (some (.int 1)) (LW (n + 2) ad oa cb ca) 1 6 := by
  refine CG.of (by decide) (Nat.le_of_ble_eq_true rfl) ?_
  intro p e s m below meth c0 A ls cx hml hr hlk hE hI hl
  have hl : lv_has ls 9 [(0, .ref (ad 0)), (1, .int (nI g)), (2, .ref oa), (3, .ref cb)] := hl
  have hI : KI D A (lw ad oa cb ca v (lO v) (lK (xp v) (xt v) (xq v) (xk v) (xl v) (xm v) (xc v)) []) s.heap s.heap [] := hI
  have hn1 := hX.2.1.1
  obtain ⟨k1, hk1⟩ : ∃ k1, k1 = min ch (40 - m1) := ⟨_, rfl⟩
  have hM := tick_c l D ca ad hX (by omega) hk hc hg hp hlg hm hlS
  rw [← hk1] at hM
  have hE1 : xCopyE v = nI (m1 + k1) := by rw [hk1]; exact copyE_is hX.2.2.1.1 hc hX.2.2.1.2 hk
  have hm40 : m1 + k1 ≤ 40 := by omega
  obtain ⟨hX1, hB⟩ := zX_copy hX hp (i := k1) hm40 hE1
  obtain ⟨o1, o2, o3, o4, o5, -⟩ := copy_o v m1 k1
  have hB1 : ∀ k, k < k1 → zB (xCopy v m1 k1) (m1 + k) := fun k hk => hB _ (by omega) (by omega)
  have h40 : ¬ (40 : Int32) ≤ xm v := by rw [hX.2.2.1.2]; exact nI_ge (a := m1) (b := 40) hm (by decide)
  have hO1 : lO v = lO (xCopy v m1 k1) := (lO_of o1 o2).symm
  have hA1 : ∀ j, j < 40 → zA (xCopy v m1 k1) j := fun j hj => (hX1.1.1 j hj).1
  have ht1 : xt v = xt (xCopy v m1 k1) := o4.symm
  have hq1 : xq v = xq (xCopy v m1 k1) := o5.symm
  have hp1 : xp (xCopy v m1 k1) = 1 := o3.trans hp
  refine lv_aload_n cx.1 cx.2.1 dL_ticks_0 rfl (lv_at hl 0 rfl) ?_
  refine lv_iconst (v := 4) cx.1 cx.2.1 dL_ticks_1 (by decide) ?_
  refine lv_iload_n cx.1 cx.2.1 dL_ticks_2 rfl (lv_at hl 1 rfl) ?_
  refine lv_iconst (v := 0) cx.1 cx.2.1 dL_ticks_3 (by decide) ?_
  refine lv_iconst (v := 0) cx.1 cx.2.1 dL_ticks_4 (by decide) ?_
  refine lc_h 5 cx hE (hl.1.trans hml.symm) hM hI wk_213 wk_211 wk_212 wk_0 ⟨by decide, by decide, by decide +kernel⟩ rfl ⟨rfl, rfl⟩ ⟨Nat.le_of_ble_eq_true rfl, Nat.le_of_ble_eq_true rfl⟩ (Nat.le_of_ble_eq_true rfl) dL_ticks_5 ⟨Nat.le_of_ble_eq_true rfl, Nat.le_of_ble_eq_true rfl⟩ rfl (fun H locs hI => ?_)
  rw [hO1] at hI
  refine lv_istore (lv' := [(4, .int (nI k1)), (0, .ref (ad 0)), (1, .int (nI g)), (2, .ref oa), (3, .ref cb)]) cx.1 cx.2.1 dL_ticks_8 hl (by decide) rfl (fun ls hl => ?_)
  refine lv_aload_n cx.1 cx.2.1 dL_ticks_10 rfl (lv_at hl 4 rfl) ?_
  refine lv_iconst (v := 0) cx.1 cx.2.1 dL_ticks_11 (by decide) ?_
  refine lr_c cx hI (vp_in_nI (n := 0) (by decide) (by decide)) dL_ticks_12 ?_
  refine k_top (y := xp v) rfl ?_
  refine lv_iconst (v := 1) cx.1 cx.2.1 dL_ticks_13 (by decide) ?_
  refine lv_icmp_eq (tgt := 30) cx.1 cx.2.1 dL_ticks_14 (by decide) (fun _ => ?_) (fun h9 => absurd hp h9)
  refine lv_iload_n cx.1 cx.2.1 dL_ticks_30 rfl (lv_at hl 2 rfl) ?_
  refine lv_aload_n cx.1 cx.2.1 dL_ticks_31 rfl (lv_at hl 4 rfl) ?_
  refine lv_iconst (v := 4) cx.1 cx.2.1 dL_ticks_32 (by decide) ?_
  refine lr_c cx hI (vp_in_nI (n := 4) (by decide) (by decide)) dL_ticks_33 ?_
  refine k_top (y := xl v) rfl ?_
  refine lv_icmp_le (tgt := 48) cx.1 cx.2.1 dL_ticks_34 (by decide) (fun _ => ?_) (fun h9 => absurd hlg h9)
  refine lv_aload_n cx.1 cx.2.1 dL_ticks_48 rfl (lv_at hl 4 rfl) ?_
  refine lv_iconst (v := 5) cx.1 cx.2.1 dL_ticks_49 (by decide) ?_
  refine lr_c cx hI (vp_in_nI (n := 5) (by decide) (by decide)) dL_ticks_50 ?_
  refine k_top (y := xm v) rfl ?_
  refine lv_bipush (v := 40) cx.1 cx.2.1 dL_ticks_51 (by decide) ?_
  refine lv_icmp_ge (tgt := 65) cx.1 cx.2.1 dL_ticks_53 (by decide) (fun h9 => absurd h9 h40) (fun _ => ?_)
  refine lv_bipush (v := 40) cx.1 cx.2.1 dL_ticks_56 (by decide) ?_
  refine lv_aload_n cx.1 cx.2.1 dL_ticks_58 rfl (lv_at hl 4 rfl) ?_
  refine lv_iconst (v := 5) cx.1 cx.2.1 dL_ticks_59 (by decide) ?_
  refine lr_c cx hI (vp_in_nI (n := 5) (by decide) (by decide)) dL_ticks_60 ?_
  refine k_top (y := xm v) rfl ?_
  refine lv_isub cx.1 cx.2.1 dL_ticks_61 ?_
  refine lv_goto (tgt := 69) cx.1 cx.2.1 dL_ticks_62 (by decide) ?_
  refine k_top (y := nI (40 - m1)) (by rw [hX.2.2.1.2]; exact pk_sub (a := 40) (b := m1) (by omega)) ?_
  refine lv_istore (lv' := [(5, .int (nI (40 - m1))), (4, .int (nI k1)), (0, .ref (ad 0)), (1, .int (nI g)), (2, .ref oa), (3, .ref cb)]) cx.1 cx.2.1 dL_ticks_69 hl (by decide) rfl (fun ls hl => ?_)
  refine lv_iload cx.1 cx.2.1 dL_ticks_71 (lv_at hl 0 rfl) ?_
  refine lv_aload_n cx.1 cx.2.1 dL_ticks_73 rfl (lv_at hl 5 rfl) ?_
  refine lv_iconst (v := 3) cx.1 cx.2.1 dL_ticks_74 (by decide) ?_
  refine lr_c cx hI (vp_in_nI (n := 3) (by decide) (by decide)) dL_ticks_75 ?_
  refine k_top (y := xk v) rfl ?_
  refine k_join (D := D) (A := A) 87 (lw ad oa cb ca (xCopy v m1 k1) (lO (xCopy v m1 k1)) (lK (xp v) (xt v) (xq v) (xk v) (xl v) (xm v) (xc v)) []) [.int (nI k1)] (fun H locs hI => ?_) (fun hj87 => ?_)
  · refine lv_istore (lv' := [(6, .int (nI k1)), (5, .int (nI (40 - m1))), (4, .int (nI k1)), (0, .ref (ad 0)), (1, .int (nI g)), (2, .ref oa), (3, .ref cb)]) cx.1 cx.2.1 dL_ticks_87 hl (by decide) rfl (fun ls hl => ?_)
    refine lv_iload cx.1 cx.2.1 dL_ticks_89 (lv_at hl 2 rfl) ?_
    refine lv_iload cx.1 cx.2.1 dL_ticks_91 (lv_at hl 0 rfl) ?_
    refine lv_icmp_ne (tgt := 100) cx.1 cx.2.1 dL_ticks_93 (by decide) (fun h9 => absurd rfl h9) (fun _ => ?_)
    refine lv_iconst (v := 1) cx.1 cx.2.1 dL_ticks_96 (by decide) ?_
    refine lv_goto (tgt := 101) cx.1 cx.2.1 dL_ticks_97 (by decide) ?_
    refine lv_istore (lv' := [(7, .int 1), (6, .int (nI k1)), (5, .int (nI (40 - m1))), (4, .int (nI k1)), (0, .ref (ad 0)), (1, .int (nI g)), (2, .ref oa), (3, .ref cb)]) cx.1 cx.2.1 dL_ticks_101 hl (by decide) rfl (fun ls hl => ?_)
    refine lv_iconst (v := 0) cx.1 cx.2.1 dL_ticks_103 (by decide) ?_
    refine lv_istore (lv' := [(8, .int 0), (7, .int 1), (6, .int (nI k1)), (5, .int (nI (40 - m1))), (4, .int (nI k1)), (0, .ref (ad 0)), (1, .int (nI g)), (2, .ref oa), (3, .ref cb)]) cx.1 cx.2.1 dL_ticks_104 hl (by decide) rfl (fun ls hl => ?_)
    refine k_loop k1 (fun k => (lw ad oa cb ca (xCopy v m1 k1) (lO (xCopy v m1 k1)) (lK (xp v) (xt v) (xq v) (xk v) (xl v) (xm v) (xc v)) [])) (fun k => [(8, .int (nI k)), (4, .int (nI k1)), (5, .int (nI (40 - m1))), (6, .int (nI k1)), (7, .int 1), (0, .ref (ad 0)), (1, .int (nI g)), (2, .ref oa), (3, .ref cb)]) hI (lv_sub hl [0, 4, 3, 2, 1, 5, 6, 7, 8] rfl) (fun H locs ls hI hl => ?_) (fun k hk2 H locs ls hI hl ih => ?_)
    · have hI : KI D A (lw ad oa cb ca (xCopy v m1 k1) (lO (xCopy v m1 k1)) (lK (xp v) (xt v) (xq v) (xk v) (xl v) (xm v) (xc v)) []) s.heap H locs := hI
      have hl : lv_has ls 9 [(8, .int (nI k1)), (4, .int (nI k1)), (5, .int (nI (40 - m1))), (6, .int (nI k1)), (7, .int 1), (0, .ref (ad 0)), (1, .int (nI g)), (2, .ref oa), (3, .ref cb)] := hl
      refine lv_iload cx.1 cx.2.1 dL_ticks_106 (lv_at hl 0 rfl) ?_
      refine lv_iload cx.1 cx.2.1 dL_ticks_108 (lv_at hl 3 rfl) ?_
      refine lv_icmp_ge (tgt := 199) cx.1 cx.2.1 dL_ticks_110 (by decide) (fun _ => ?_) (fun h9 => absurd (Int32.le_refl _) h9)
      refine lv_aload_n cx.1 cx.2.1 dL_ticks_199 rfl (lv_at hl 8 rfl) ?_
      refine lv_bipush (v := 6) cx.1 cx.2.1 dL_ticks_200 (by decide) ?_
      refine lv_dup2_11 cx.1 cx.2.1 dL_ticks_202 rfl rfl ?_
      refine lr_c cx hI (vp_in_nI (n := 6) (by decide) (by decide)) dL_ticks_203 ?_
      refine k_top (y := xc v) rfl ?_
      refine lv_aload_n cx.1 cx.2.1 dL_ticks_204 rfl (lv_at hl 8 rfl) ?_
      refine lv_iconst (v := 5) cx.1 cx.2.1 dL_ticks_205 (by decide) ?_
      refine lr_c cx hI (vp_in_nI (n := 5) (by decide) (by decide)) dL_ticks_206 ?_
      refine k_top (y := xm v) rfl ?_
      refine lv_bipush (v := 40) cx.1 cx.2.1 dL_ticks_207 (by decide) ?_
      refine lv_icmp_ge (tgt := 216) cx.1 cx.2.1 dL_ticks_209 (by decide) (fun h9 => absurd h9 h40) (fun _ => ?_)
      refine lv_iconst (v := 0) cx.1 cx.2.1 dL_ticks_212 (by decide) ?_
      refine lv_goto (tgt := 218) cx.1 cx.2.1 dL_ticks_213 (by decide) ?_
      refine lv_isub cx.1 cx.2.1 dL_ticks_218 ?_
      refine k_top (y := xc v) (sub0 _) ?_
      refine ls_c6 cx hI dL_ticks_219 (fun H locs hI => ?_)
      refine lv_aload_n cx.1 cx.2.1 dL_ticks_220 rfl (lv_at hl 8 rfl) ?_
      refine lv_iconst (v := 5) cx.1 cx.2.1 dL_ticks_221 (by decide) ?_
      refine lv_dup2_11 cx.1 cx.2.1 dL_ticks_222 rfl rfl ?_
      refine lr_c cx hI (vp_in_nI (n := 5) (by decide) (by decide)) dL_ticks_223 ?_
      refine k_top (y := xm v) rfl ?_
      refine lv_aload_n cx.1 cx.2.1 dL_ticks_224 rfl (lv_at hl 8 rfl) ?_
      refine lv_iconst (v := 5) cx.1 cx.2.1 dL_ticks_225 (by decide) ?_
      refine lr_c cx hI (vp_in_nI (n := 5) (by decide) (by decide)) dL_ticks_226 ?_
      refine k_top (y := xm v) rfl ?_
      refine lv_bipush (v := 40) cx.1 cx.2.1 dL_ticks_227 (by decide) ?_
      refine lv_icmp_ge (tgt := 237) cx.1 cx.2.1 dL_ticks_229 (by decide) (fun h9 => absurd h9 h40) (fun _ => ?_)
      refine lv_iload cx.1 cx.2.1 dL_ticks_232 (lv_at hl 3 rfl) ?_
      refine lv_goto (tgt := 238) cx.1 cx.2.1 dL_ticks_234 (by decide) ?_
      refine lv_iadd cx.1 cx.2.1 dL_ticks_238 ?_
      refine k_top (y := nI (m1 + k1)) (by rw [hX.2.2.1.2, nI_add]) ?_
      refine ls_c5 cx hI dL_ticks_239 (fun H locs hI => ?_)
      refine lv_iload cx.1 cx.2.1 dL_ticks_240 (lv_at hl 4 rfl) ?_
      refine lv_if_eq (tgt := 271) cx.1 cx.2.1 dL_ticks_242 (by decide) (fun h9 => absurd h9 (by decide)) (fun _ => ?_)
      refine lv_aload_n cx.1 cx.2.1 dL_ticks_245 rfl (lv_at hl 8 rfl) ?_
      refine lv_iconst (v := 5) cx.1 cx.2.1 dL_ticks_246 (by decide) ?_
      refine lr_c cx hI (vp_in_nI (n := 5) (by decide) (by decide)) dL_ticks_247 ?_
      refine k_top (y := nI (m1 + k1)) rfl ?_
      refine lv_bipush (v := 40) cx.1 cx.2.1 dL_ticks_248 (by decide) ?_
      refine k_join (D := D) (A := A) 267 (lw ad oa cb ca (xCopy v m1 k1) (lO (xCopy v m1 k1)) (lK (xp v) (xt v) (xq v) (xk v) (xl v) (nI (m1 + k1)) (xc v)) []) [] (fun H locs hI => ?_) (fun hj267 => ?_)
      · refine lv_iconst (v := 1) cx.1 cx.2.1 dL_ticks_267 (by decide) ?_
        refine lv_goto (tgt := 272) cx.1 cx.2.1 dL_ticks_268 (by decide) ?_
        exact ke_g (lw ad oa cb ca (xCopy v m1 k1) (lO (xCopy v m1 k1)) (lK (xp v) (xt v) (xq v) (xk v) (xl v) (nI (m1 + k1)) (xc v)) []) [] cx hr hlk hI (Nat.le_of_ble_eq_true rfl) (Nat.le_of_ble_eq_true rfl) dL_ticks_272 rfl rfl ⟨_, ⟨c1, m1 + k1, hX1.mono (fun _ q => q) (by omega)⟩, lw_eq rfl (lC_copy hE1)⟩
      ·
        refine lv_icmp_lt (tgt := 267) cx.1 cx.2.1 dL_ticks_250 (by decide) (fun c_2 => ?_) (fun c_2 => ?_)
        · exact hj267 _ _ hI
        · refine lv_aload_n cx.1 cx.2.1 dL_ticks_253 rfl (lv_at hl 8 rfl) ?_
          refine lv_bipush (v := 6) cx.1 cx.2.1 dL_ticks_254 (by decide) ?_
          refine lr_c cx hI (vp_in_nI (n := 6) (by decide) (by decide)) dL_ticks_256 ?_
          refine k_top (y := xc v) rfl ?_
          refine lv_if_gt (tgt := 267) cx.1 cx.2.1 dL_ticks_257 (by decide) (fun c_3 => ?_) (fun c_3 => ?_)
          · exact hj267 _ _ hI
          · refine lv_aload_n cx.1 cx.2.1 dL_ticks_260 rfl (lv_at hl 5 rfl) ?_
            refine lc_i 0 cx (hl.1.trans hml.symm) (kX0_behind l D ca ad (xCopy v m1 k1)) hI wk_179 wk_176 wk_177 wk_178 ⟨rfl, by decide +kernel⟩ rfl ⟨rfl, rfl⟩ ⟨Nat.le_of_ble_eq_true rfl, Nat.le_of_ble_eq_true rfl⟩ (Nat.le_of_ble_eq_true rfl) dL_ticks_261 ⟨Nat.le_of_ble_eq_true rfl, Nat.le_of_ble_eq_true rfl⟩ rfl (fun H locs hI => ?_)
            refine lv_if_ne (tgt := 271) cx.1 cx.2.1 dL_ticks_264 (by decide) (fun h9 => absurd (beh_none hX1 hp1 (eq40 hm40 c_2) (eq00 (by omega) (by rw [← hX.2.1.2.1]; exact c_3))) h9) (fun _ => ?_)
            exact hj267 _ _ hI
    · have hI : KI D A (lw ad oa cb ca (xCopy v m1 k1) (lO (xCopy v m1 k1)) (lK (xp v) (xt v) (xq v) (xk v) (xl v) (xm v) (xc v)) []) s.heap H locs := hI
      have hl : lv_has ls 9 [(8, .int (nI k)), (4, .int (nI k1)), (5, .int (nI (40 - m1))), (6, .int (nI k1)), (7, .int 1), (0, .ref (ad 0)), (1, .int (nI g)), (2, .ref oa), (3, .ref cb)] := hl
      refine lv_iload cx.1 cx.2.1 dL_ticks_106 (lv_at hl 0 rfl) ?_
      refine lv_iload cx.1 cx.2.1 dL_ticks_108 (lv_at hl 3 rfl) ?_
      refine lv_icmp_ge (tgt := 199) cx.1 cx.2.1 dL_ticks_110 (by decide) (fun h9 => absurd h9 (nI_ge hk2 (by omega))) (fun _ => ?_)
      refine lv_aload_n cx.1 cx.2.1 dL_ticks_113 rfl (lv_at hl 8 rfl) ?_
      refine lv_iconst (v := 5) cx.1 cx.2.1 dL_ticks_114 (by decide) ?_
      refine lr_c cx hI (vp_in_nI (n := 5) (by decide) (by decide)) dL_ticks_115 ?_
      refine k_top (y := xm v) rfl ?_
      refine lv_bipush (v := 40) cx.1 cx.2.1 dL_ticks_116 (by decide) ?_
      refine lv_icmp_ge (tgt := 199) cx.1 cx.2.1 dL_ticks_118 (by decide) (fun h9 => absurd h9 h40) (fun _ => ?_)
      refine lv_iload cx.1 cx.2.1 dL_ticks_121 (lv_at hl 4 rfl) ?_
      refine lv_if_eq (tgt := 199) cx.1 cx.2.1 dL_ticks_123 (by decide) (fun h9 => absurd h9 (by decide)) (fun _ => ?_)
      refine lv_aload_n cx.1 cx.2.1 dL_ticks_126 rfl (lv_at hl 5 rfl) ?_
      refine lv_aload_n cx.1 cx.2.1 dL_ticks_127 rfl (lv_at hl 7 rfl) ?_
      refine lv_aload_n cx.1 cx.2.1 dL_ticks_128 rfl (lv_at hl 8 rfl) ?_
      refine lv_aload_n cx.1 cx.2.1 dL_ticks_129 rfl (lv_at hl 8 rfl) ?_
      refine lv_iconst (v := 5) cx.1 cx.2.1 dL_ticks_130 (by decide) ?_
      refine lr_c cx hI (vp_in_nI (n := 5) (by decide) (by decide)) dL_ticks_131 ?_
      refine k_top (y := xm v) rfl ?_
      refine lv_iload cx.1 cx.2.1 dL_ticks_132 (lv_at hl 0 rfl) ?_
      refine lv_iadd cx.1 cx.2.1 dL_ticks_134 ?_
      refine k_top (y := nI (m1 + k)) (by rw [hX.2.2.1.2, nI_add]) ?_
      refine lc_w 4 cx (hl.1.trans hml.symm) (kL_isEven l D ca ad oa cb (xCopy v m1 k1) (lO (xCopy v m1 k1)) (xp v) (xt v) (xq v) (xk v) (xl v) (xm v) (xc v) (by omega) (hA1 _ (by omega)) rfl ht1 hq1) hI wk_388 wk_386 wk_387 wk_0 ⟨by decide, by decide, by decide +kernel⟩ rfl ⟨rfl, rfl⟩ ⟨Nat.le_of_ble_eq_true rfl, Nat.le_of_ble_eq_true rfl⟩ (Nat.le_of_ble_eq_true rfl) dL_ticks_135 ⟨Nat.le_of_ble_eq_true rfl, Nat.le_of_ble_eq_true rfl⟩ rfl (fun H locs hI => ?_)
      refine kb_eq (tgt := 190) cx dL_ticks_138 (by decide) (fun h9 => (bno h9 (by rw [zB_beh (by omega) (hB1 k hk2)]; rfl)).elim) (fun _ => ?_)
      refine lv_aload_n cx.1 cx.2.1 dL_ticks_141 rfl (lv_at hl 5 rfl) ?_
      refine lv_aload_n cx.1 cx.2.1 dL_ticks_142 rfl (lv_at hl 8 rfl) ?_
      refine lv_iconst (v := 5) cx.1 cx.2.1 dL_ticks_143 (by decide) ?_
      refine lr_c cx hI (vp_in_nI (n := 5) (by decide) (by decide)) dL_ticks_144 ?_
      refine k_top (y := xm v) rfl ?_
      refine lv_iload cx.1 cx.2.1 dL_ticks_145 (lv_at hl 0 rfl) ?_
      refine lv_iadd cx.1 cx.2.1 dL_ticks_147 ?_
      refine k_top (y := nI (m1 + k)) (by rw [hX.2.2.1.2, nI_add]) ?_
      refine lc_i 1 cx (hl.1.trans hml.symm) (kS_isRefused l D ca ad (xCopy v m1 k1) (nI (m1 + k)) (hz_of hX1.1) (vp_in_nI (by omega) (by decide))) hI wk_392 wk_389 wk_390 wk_391 ⟨rfl, by decide +kernel⟩ rfl ⟨rfl, rfl⟩ ⟨Nat.le_of_ble_eq_true rfl, Nat.le_of_ble_eq_true rfl⟩ (Nat.le_of_ble_eq_true rfl) dL_ticks_148 ⟨Nat.le_of_ble_eq_true rfl, Nat.le_of_ble_eq_true rfl⟩ rfl (fun H locs hI => ?_)
      refine k_top (y := xR (xCopy v m1 k1) (m1 + k)) (congrArg (xR (xCopy v m1 k1)) (kx (by omega))) ?_
      refine lv_aload_n cx.1 cx.2.1 dL_ticks_151 rfl (lv_at hl 7 rfl) ?_
      refine lv_aload_n cx.1 cx.2.1 dL_ticks_152 rfl (lv_at hl 8 rfl) ?_
      refine lv_iconst (v := 5) cx.1 cx.2.1 dL_ticks_153 (by decide) ?_
      refine lr_c cx hI (vp_in_nI (n := 5) (by decide) (by decide)) dL_ticks_154 ?_
      refine k_top (y := xm v) rfl ?_
      refine lv_iload cx.1 cx.2.1 dL_ticks_155 (lv_at hl 0 rfl) ?_
      refine lv_iadd cx.1 cx.2.1 dL_ticks_157 ?_
      refine k_top (y := nI (m1 + k)) (by rw [hX.2.2.1.2, nI_add]) ?_
      refine lr_on cx hI (by omega) dL_ticks_158 ?_
      refine k_join (D := D) (A := A) 183 (lw ad oa cb ca (xCopy v m1 k1) (lO (xCopy v m1 k1)) (lK (xp v) (xt v) (xq v) (xk v) (xl v) (xm v) (xc v)) []) [.int (b2i (xOld (xCopy v m1 k1) (nI (m1 + k)) && !lDue (xCopy v m1 k1) (nI (m1 + k)))), .int (xR (xCopy v m1 k1) (m1 + k))] (fun H locs hI => ?_) (fun hj183 => ?_)
      · refine lv_icmp_ne (tgt := 190) cx.1 cx.2.1 dL_ticks_183 (by decide) (fun h9 => absurd (zB_ref (by omega) (hB1 k hk2)) h9) (fun _ => ?_)
        refine lv_iconst (v := 1) cx.1 cx.2.1 dL_ticks_186 (by decide) ?_
        refine lv_goto (tgt := 191) cx.1 cx.2.1 dL_ticks_187 (by decide) ?_
        refine lv_istore (lv' := [(7, .int 1), (8, .int (nI k)), (4, .int (nI k1)), (5, .int (nI (40 - m1))), (6, .int (nI k1)), (0, .ref (ad 0)), (1, .int (nI g)), (2, .ref oa), (3, .ref cb)]) cx.1 cx.2.1 dL_ticks_191 hl (by decide) rfl (fun ls hl => ?_)
        refine lv_iinc (v := nI (k + 1)) (lv' := [(8, .int (nI (k + 1))), (7, .int 1), (4, .int (nI k1)), (5, .int (nI (40 - m1))), (6, .int (nI k1)), (0, .ref (ad 0)), (1, .int (nI g)), (2, .ref oa), (3, .ref cb)]) cx.1 cx.2.1 dL_ticks_193 hl (k := 1) rfl (nI_1 k) (by decide) rfl (fun ls hl => ?_)
        refine lv_goto (tgt := 106) cx.1 cx.2.1 dL_ticks_196 (by decide) ?_
        refine ih _ _ _ ?_ ?_
        · show KI D A (lw ad oa cb ca (xCopy v m1 k1) (lO (xCopy v m1 k1)) (lK (xp v) (xt v) (xq v) (xk v) (xl v) (xm v) (xc v)) []) s.heap _ _
          exact hI
        · show lv_has _ _ [(8, .int (nI (k + 1))), (4, .int (nI k1)), (5, .int (nI (40 - m1))), (6, .int (nI k1)), (7, .int 1), (0, .ref (ad 0)), (1, .int (nI g)), (2, .ref oa), (3, .ref cb)]
          exact lv_sub hl [0, 2, 3, 4, 1, 5, 6, 7, 8] rfl
      ·
        refine lv_if_lt (tgt := 182) cx.1 cx.2.1 dL_ticks_159 (by decide) (fun c_5 => ?_) (fun c_5 => ?_)
        · refine lv_iconst (v := 0) cx.1 cx.2.1 dL_ticks_182 (by decide) ?_
          exact k_top (by first | exact ref2_a (lO_lt (by omega) (hA1 _ (by omega)) c_5) | exact ref2_b c_5) (hj183 _ _ hI)
        · refine lv_aload_n cx.1 cx.2.1 dL_ticks_162 rfl (lv_at hl 8 rfl) ?_
          refine lv_aload_n cx.1 cx.2.1 dL_ticks_163 rfl (lv_at hl 7 rfl) ?_
          refine lv_aload_n cx.1 cx.2.1 dL_ticks_164 rfl (lv_at hl 8 rfl) ?_
          refine lv_iconst (v := 5) cx.1 cx.2.1 dL_ticks_165 (by decide) ?_
          refine lr_c cx hI (vp_in_nI (n := 5) (by decide) (by decide)) dL_ticks_166 ?_
          refine k_top (y := xm v) rfl ?_
          refine lv_iload cx.1 cx.2.1 dL_ticks_167 (lv_at hl 0 rfl) ?_
          refine lv_iadd cx.1 cx.2.1 dL_ticks_169 ?_
          refine k_top (y := nI (m1 + k)) (by rw [hX.2.2.1.2, nI_add]) ?_
          refine lr_on cx hI (by omega) dL_ticks_170 ?_
          refine lv_iconst (v := 0) cx.1 cx.2.1 dL_ticks_171 (by decide) ?_
          refine lc_c 3 cx (hl.1.trans hml.symm) (kL_altered l D ca cb (lK (xp v) (xt v) (xq v) (xk v) (xl v) (xm v) (xc v)) ((lO (xCopy v m1 k1)) (m1 + k)) 0) hI wk_167 wk_165 wk_166 wk_0 ⟨by decide, by decide, by decide +kernel⟩ rfl ⟨rfl, rfl⟩ ⟨Nat.le_of_ble_eq_true rfl, Nat.le_of_ble_eq_true rfl⟩ (Nat.le_of_ble_eq_true rfl) dL_ticks_172 ⟨Nat.le_of_ble_eq_true rfl, Nat.le_of_ble_eq_true rfl⟩ rfl (fun H locs hI => ?_)
          refine k_top (y := xBro (xCopy v m1 k1) (nI (m1 + k)) 0) (by rw [ht1, hq1]; exact lAlt_bro (by omega) (hA1 _ (by omega)) 0) ?_
          refine lv_if_ge (tgt := 182) cx.1 cx.2.1 dL_ticks_175 (by decide) (fun c_6 => ?_) (fun c_6 => ?_)
          · refine lv_iconst (v := 0) cx.1 cx.2.1 dL_ticks_182 (by decide) ?_
            exact k_top (by first | exact ref2_a (lO_lt (by omega) (hA1 _ (by omega)) c_6) | exact ref2_b c_6) (hj183 _ _ hI)
          · refine lv_iconst (v := 1) cx.1 cx.2.1 dL_ticks_178 (by decide) ?_
            refine lv_goto (tgt := 183) cx.1 cx.2.1 dL_ticks_179 (by decide) ?_
            exact k_top (ref2_c hX1.1.2.1 (by omega) (hA1 _ (by omega)) (lO_ge (by omega) (hA1 _ (by omega)) c_5) c_6) (hj183 _ _ hI)
  ·
    refine lv_icmp_ge (tgt := 84) cx.1 cx.2.1 dL_ticks_76 (by decide) (fun c_7 => ?_) (fun c_7 => ?_)
    · refine lv_aload_n cx.1 cx.2.1 dL_ticks_84 rfl (lv_at hl 5 rfl) ?_
      refine lv_iconst (v := 3) cx.1 cx.2.1 dL_ticks_85 (by decide) ?_
      refine lr_c cx hI (vp_in_nI (n := 3) (by decide) (by decide)) dL_ticks_86 ?_
      refine k_top (y := xk v) rfl ?_
      exact k_top (many_t hk hk1 hc (by omega) c_7) (hj87 _ _ hI)
    · refine lv_iload cx.1 cx.2.1 dL_ticks_79 (lv_at hl 0 rfl) ?_
      refine lv_goto (tgt := 87) cx.1 cx.2.1 dL_ticks_81 (by decide) ?_
      exact k_top (many_f hk hk1 hc (by omega) c_7) (hj87 _ _ hI)
set_option maxHeartbeats 4000000 in
set_option maxRecDepth 100000 in
theorem kL_ticks_d (l : Launch) (D : va_G) (ca : Nat → ClassId) (ad : Nat → Nat) (oa cb : Nat) {v : XS} {n c1 ch g : Nat} (hX : zX zE n c1 40 v) (hn : n + 2 ≤ 1000) (hk : xk v = nI ch) (hc1 : 1 ≤ ch) (hc : ch ≤ 40) (hg : g < 40) (hp : xp v = 1) (hlg : nI g ≤ xl v) (hlS : l.stackTraces = false) : CG l yL_ticks cL_ticks 9 (some .boolean) { frames := 9, cells := 1, slots := 6, locals := 201 } D ca (lw ad oa cb ca v (lO v) (lC v) []) [.ref (ad 0), .int (nI g), .ref oa, .ref cb] (some (.int 1)) (LW (n + 2) ad oa cb ca) 1 6 := by
  refine CG.of (by decide) (Nat.le_of_ble_eq_true rfl) ?_
  intro p e s m below meth c0 A ls cx hml hr hlk hE hI hl
  have hl : lv_has ls 9 [(0, .ref (ad 0)), (1, .int (nI g)), (2, .ref oa), (3, .ref cb)] := hl
  have hI : KI D A (lw ad oa cb ca v (lO v) (lK (xp v) (xt v) (xq v) (xk v) (xl v) (xm v) (xc v)) []) s.heap s.heap [] := hI
  have hn1 := hX.2.1.1
  obtain ⟨k1, hk1⟩ : ∃ k1, k1 = min ch c1 := ⟨_, rfl⟩
  have hM := tick_d l D ca ad hX (by omega) hk hc hg hp hlg hlS
  rw [← hk1] at hM
  have hX1 := zX_play hX hp (by omega) (cn := k1) (by omega)
  obtain ⟨o1, o2, o3, o4, o5, -⟩ := play_o v k1
  have h40 : (40 : Int32) ≤ xm v := by rw [hX.2.2.1.2]; decide
  have hO1 : lO v = lO (xPlay v k1) := (lO_of o1 o2).symm
  have hA1 : ∀ j, j < 40 → zA (xPlay v k1) j := fun j hj => (hX1.1.1 j hj).1
  have ht1 : xt v = xt (xPlay v k1) := o4.symm
  have hq1 : xq v = xq (xPlay v k1) := o5.symm
  have hp1 : xp (xPlay v k1) = 1 := o3.trans hp
  refine lv_aload_n cx.1 cx.2.1 dL_ticks_0 rfl (lv_at hl 0 rfl) ?_
  refine lv_iconst (v := 4) cx.1 cx.2.1 dL_ticks_1 (by decide) ?_
  refine lv_iload_n cx.1 cx.2.1 dL_ticks_2 rfl (lv_at hl 1 rfl) ?_
  refine lv_iconst (v := 0) cx.1 cx.2.1 dL_ticks_3 (by decide) ?_
  refine lv_iconst (v := 0) cx.1 cx.2.1 dL_ticks_4 (by decide) ?_
  refine lc_h 5 cx hE (hl.1.trans hml.symm) hM hI wk_213 wk_211 wk_212 wk_0 ⟨by decide, by decide, by decide +kernel⟩ rfl ⟨rfl, rfl⟩ ⟨Nat.le_of_ble_eq_true rfl, Nat.le_of_ble_eq_true rfl⟩ (Nat.le_of_ble_eq_true rfl) dL_ticks_5 ⟨Nat.le_of_ble_eq_true rfl, Nat.le_of_ble_eq_true rfl⟩ rfl (fun H locs hI => ?_)
  rw [hO1] at hI
  refine lv_istore (lv' := [(4, .int (nI k1)), (0, .ref (ad 0)), (1, .int (nI g)), (2, .ref oa), (3, .ref cb)]) cx.1 cx.2.1 dL_ticks_8 hl (by decide) rfl (fun ls hl => ?_)
  refine lv_aload_n cx.1 cx.2.1 dL_ticks_10 rfl (lv_at hl 4 rfl) ?_
  refine lv_iconst (v := 0) cx.1 cx.2.1 dL_ticks_11 (by decide) ?_
  refine lr_c cx hI (vp_in_nI (n := 0) (by decide) (by decide)) dL_ticks_12 ?_
  refine k_top (y := xp v) rfl ?_
  refine lv_iconst (v := 1) cx.1 cx.2.1 dL_ticks_13 (by decide) ?_
  refine lv_icmp_eq (tgt := 30) cx.1 cx.2.1 dL_ticks_14 (by decide) (fun _ => ?_) (fun h9 => absurd hp h9)
  refine lv_iload_n cx.1 cx.2.1 dL_ticks_30 rfl (lv_at hl 2 rfl) ?_
  refine lv_aload_n cx.1 cx.2.1 dL_ticks_31 rfl (lv_at hl 4 rfl) ?_
  refine lv_iconst (v := 4) cx.1 cx.2.1 dL_ticks_32 (by decide) ?_
  refine lr_c cx hI (vp_in_nI (n := 4) (by decide) (by decide)) dL_ticks_33 ?_
  refine k_top (y := xl v) rfl ?_
  refine lv_icmp_le (tgt := 48) cx.1 cx.2.1 dL_ticks_34 (by decide) (fun _ => ?_) (fun h9 => absurd hlg h9)
  refine lv_aload_n cx.1 cx.2.1 dL_ticks_48 rfl (lv_at hl 4 rfl) ?_
  refine lv_iconst (v := 5) cx.1 cx.2.1 dL_ticks_49 (by decide) ?_
  refine lr_c cx hI (vp_in_nI (n := 5) (by decide) (by decide)) dL_ticks_50 ?_
  refine k_top (y := xm v) rfl ?_
  refine lv_bipush (v := 40) cx.1 cx.2.1 dL_ticks_51 (by decide) ?_
  refine lv_icmp_ge (tgt := 65) cx.1 cx.2.1 dL_ticks_53 (by decide) (fun _ => ?_) (fun h9 => absurd h40 h9)
  refine lv_aload_n cx.1 cx.2.1 dL_ticks_65 rfl (lv_at hl 4 rfl) ?_
  refine lv_bipush (v := 6) cx.1 cx.2.1 dL_ticks_66 (by decide) ?_
  refine lr_c cx hI (vp_in_nI (n := 6) (by decide) (by decide)) dL_ticks_68 ?_
  refine k_top (y := xc v) rfl ?_
  refine k_top (y := nI c1) hX.2.1.2.1 ?_
  refine lv_istore (lv' := [(5, .int (nI c1)), (4, .int (nI k1)), (0, .ref (ad 0)), (1, .int (nI g)), (2, .ref oa), (3, .ref cb)]) cx.1 cx.2.1 dL_ticks_69 hl (by decide) rfl (fun ls hl => ?_)
  refine lv_iload cx.1 cx.2.1 dL_ticks_71 (lv_at hl 0 rfl) ?_
  refine lv_aload_n cx.1 cx.2.1 dL_ticks_73 rfl (lv_at hl 5 rfl) ?_
  refine lv_iconst (v := 3) cx.1 cx.2.1 dL_ticks_74 (by decide) ?_
  refine lr_c cx hI (vp_in_nI (n := 3) (by decide) (by decide)) dL_ticks_75 ?_
  refine k_top (y := xk v) rfl ?_
  refine k_join (D := D) (A := A) 87 (lw ad oa cb ca (xPlay v k1) (lO (xPlay v k1)) (lK (xp v) (xt v) (xq v) (xk v) (xl v) (xm v) (xc v)) []) [.int (nI k1)] (fun H locs hI => ?_) (fun hj87 => ?_)
  · refine lv_istore (lv' := [(6, .int (nI k1)), (5, .int (nI c1)), (4, .int (nI k1)), (0, .ref (ad 0)), (1, .int (nI g)), (2, .ref oa), (3, .ref cb)]) cx.1 cx.2.1 dL_ticks_87 hl (by decide) rfl (fun ls hl => ?_)
    refine lv_iload cx.1 cx.2.1 dL_ticks_89 (lv_at hl 2 rfl) ?_
    refine lv_iload cx.1 cx.2.1 dL_ticks_91 (lv_at hl 0 rfl) ?_
    refine lv_icmp_ne (tgt := 100) cx.1 cx.2.1 dL_ticks_93 (by decide) (fun h9 => absurd rfl h9) (fun _ => ?_)
    refine lv_iconst (v := 1) cx.1 cx.2.1 dL_ticks_96 (by decide) ?_
    refine lv_goto (tgt := 101) cx.1 cx.2.1 dL_ticks_97 (by decide) ?_
    refine lv_istore (lv' := [(7, .int 1), (6, .int (nI k1)), (5, .int (nI c1)), (4, .int (nI k1)), (0, .ref (ad 0)), (1, .int (nI g)), (2, .ref oa), (3, .ref cb)]) cx.1 cx.2.1 dL_ticks_101 hl (by decide) rfl (fun ls hl => ?_)
    refine lv_iconst (v := 0) cx.1 cx.2.1 dL_ticks_103 (by decide) ?_
    refine lv_istore (lv' := [(8, .int 0), (7, .int 1), (6, .int (nI k1)), (5, .int (nI c1)), (4, .int (nI k1)), (0, .ref (ad 0)), (1, .int (nI g)), (2, .ref oa), (3, .ref cb)]) cx.1 cx.2.1 dL_ticks_104 hl (by decide) rfl (fun ls hl => ?_)
    refine lv_iload cx.1 cx.2.1 dL_ticks_106 (lv_at hl 0 rfl) ?_
    refine lv_iload cx.1 cx.2.1 dL_ticks_108 (lv_at hl 2 rfl) ?_
    refine k_join (D := D) (A := A) 199 (lw ad oa cb ca (xPlay v k1) (lO (xPlay v k1)) (lK (xp v) (xt v) (xq v) (xk v) (xl v) (xm v) (xc v)) []) [] (fun H locs hI => ?_) (fun hj199 => ?_)
    · refine lv_aload_n cx.1 cx.2.1 dL_ticks_199 rfl (lv_at hl 8 rfl) ?_
      refine lv_bipush (v := 6) cx.1 cx.2.1 dL_ticks_200 (by decide) ?_
      refine lv_dup2_11 cx.1 cx.2.1 dL_ticks_202 rfl rfl ?_
      refine lr_c cx hI (vp_in_nI (n := 6) (by decide) (by decide)) dL_ticks_203 ?_
      refine k_top (y := xc v) rfl ?_
      refine lv_aload_n cx.1 cx.2.1 dL_ticks_204 rfl (lv_at hl 8 rfl) ?_
      refine lv_iconst (v := 5) cx.1 cx.2.1 dL_ticks_205 (by decide) ?_
      refine lr_c cx hI (vp_in_nI (n := 5) (by decide) (by decide)) dL_ticks_206 ?_
      refine k_top (y := xm v) rfl ?_
      refine lv_bipush (v := 40) cx.1 cx.2.1 dL_ticks_207 (by decide) ?_
      refine lv_icmp_ge (tgt := 216) cx.1 cx.2.1 dL_ticks_209 (by decide) (fun _ => ?_) (fun h9 => absurd h40 h9)
      refine lv_iload cx.1 cx.2.1 dL_ticks_216 (lv_at hl 2 rfl) ?_
      refine lv_isub cx.1 cx.2.1 dL_ticks_218 ?_
      refine k_top (y := nI (c1 - k1)) (by rw [hX.2.1.2.1]; exact pk_sub (by omega)) ?_
      refine ls_c6 cx hI dL_ticks_219 (fun H locs hI => ?_)
      refine lv_aload_n cx.1 cx.2.1 dL_ticks_220 rfl (lv_at hl 8 rfl) ?_
      refine lv_iconst (v := 5) cx.1 cx.2.1 dL_ticks_221 (by decide) ?_
      refine lv_dup2_11 cx.1 cx.2.1 dL_ticks_222 rfl rfl ?_
      refine lr_c cx hI (vp_in_nI (n := 5) (by decide) (by decide)) dL_ticks_223 ?_
      refine k_top (y := xm v) rfl ?_
      refine lv_aload_n cx.1 cx.2.1 dL_ticks_224 rfl (lv_at hl 8 rfl) ?_
      refine lv_iconst (v := 5) cx.1 cx.2.1 dL_ticks_225 (by decide) ?_
      refine lr_c cx hI (vp_in_nI (n := 5) (by decide) (by decide)) dL_ticks_226 ?_
      refine k_top (y := xm v) rfl ?_
      refine lv_bipush (v := 40) cx.1 cx.2.1 dL_ticks_227 (by decide) ?_
      refine lv_icmp_ge (tgt := 237) cx.1 cx.2.1 dL_ticks_229 (by decide) (fun _ => ?_) (fun h9 => absurd h40 h9)
      refine lv_iconst (v := 0) cx.1 cx.2.1 dL_ticks_237 (by decide) ?_
      refine lv_iadd cx.1 cx.2.1 dL_ticks_238 ?_
      refine k_top (y := xm v) (add0 _) ?_
      refine ls_c5 cx hI dL_ticks_239 (fun H locs hI => ?_)
      refine lv_iload cx.1 cx.2.1 dL_ticks_240 (lv_at hl 1 rfl) ?_
      refine lv_if_eq (tgt := 271) cx.1 cx.2.1 dL_ticks_242 (by decide) (fun h9 => absurd h9 (by decide)) (fun _ => ?_)
      refine lv_aload_n cx.1 cx.2.1 dL_ticks_245 rfl (lv_at hl 8 rfl) ?_
      refine lv_iconst (v := 5) cx.1 cx.2.1 dL_ticks_246 (by decide) ?_
      refine lr_c cx hI (vp_in_nI (n := 5) (by decide) (by decide)) dL_ticks_247 ?_
      refine k_top (y := xm v) rfl ?_
      refine lv_bipush (v := 40) cx.1 cx.2.1 dL_ticks_248 (by decide) ?_
      refine lv_icmp_lt (tgt := 267) cx.1 cx.2.1 dL_ticks_250 (by decide) (fun h9 => absurd h9 (by rw [hX.2.2.1.2]; decide)) (fun _ => ?_)
      refine lv_aload_n cx.1 cx.2.1 dL_ticks_253 rfl (lv_at hl 8 rfl) ?_
      refine lv_bipush (v := 6) cx.1 cx.2.1 dL_ticks_254 (by decide) ?_
      refine lr_c cx hI (vp_in_nI (n := 6) (by decide) (by decide)) dL_ticks_256 ?_
      refine k_top (y := nI (c1 - k1)) rfl ?_
      refine k_join (D := D) (A := A) 267 (lw ad oa cb ca (xPlay v k1) (lO (xPlay v k1)) (lK (xp v) (xt v) (xq v) (xk v) (xl v) (xm v) (nI (c1 - k1))) []) [] (fun H locs hI => ?_) (fun hj267 => ?_)
      · refine lv_iconst (v := 1) cx.1 cx.2.1 dL_ticks_267 (by decide) ?_
        refine lv_goto (tgt := 272) cx.1 cx.2.1 dL_ticks_268 (by decide) ?_
        exact ke_g (lw ad oa cb ca (xPlay v k1) (lO (xPlay v k1)) (lK (xp v) (xt v) (xq v) (xk v) (xl v) (xm v) (nI (c1 - k1))) []) [] cx hr hlk hI (Nat.le_of_ble_eq_true rfl) (Nat.le_of_ble_eq_true rfl) dL_ticks_272 rfl rfl ⟨_, ⟨c1 - k1, 40, hX1.mono (fun _ q => q) (by omega)⟩, lw_eq rfl (lC_play hX.2.1.2.1 (by omega))⟩
      ·
        refine lv_if_gt (tgt := 267) cx.1 cx.2.1 dL_ticks_257 (by decide) (fun c_1 => ?_) (fun c_1 => ?_)
        · exact hj267 _ _ hI
        · refine lv_aload_n cx.1 cx.2.1 dL_ticks_260 rfl (lv_at hl 5 rfl) ?_
          refine lc_i 0 cx (hl.1.trans hml.symm) (kX0_behind l D ca ad (xPlay v k1)) hI wk_179 wk_176 wk_177 wk_178 ⟨rfl, by decide +kernel⟩ rfl ⟨rfl, rfl⟩ ⟨Nat.le_of_ble_eq_true rfl, Nat.le_of_ble_eq_true rfl⟩ (Nat.le_of_ble_eq_true rfl) dL_ticks_261 ⟨Nat.le_of_ble_eq_true rfl, Nat.le_of_ble_eq_true rfl⟩ rfl (fun H locs hI => ?_)
          refine lv_if_ne (tgt := 271) cx.1 cx.2.1 dL_ticks_264 (by decide) (fun h9 => absurd (beh_none hX1 hp1 rfl (eq00 (by omega) c_1)) h9) (fun _ => ?_)
          exact hj267 _ _ hI
    ·
      refine lv_icmp_ge (tgt := 199) cx.1 cx.2.1 dL_ticks_110 (by decide) (fun c_2 => ?_) (fun c_2 => ?_)
      · exact hj199 _ _ hI
      · refine lv_aload_n cx.1 cx.2.1 dL_ticks_113 rfl (lv_at hl 8 rfl) ?_
        refine lv_iconst (v := 5) cx.1 cx.2.1 dL_ticks_114 (by decide) ?_
        refine lr_c cx hI (vp_in_nI (n := 5) (by decide) (by decide)) dL_ticks_115 ?_
        refine k_top (y := xm v) rfl ?_
        refine lv_bipush (v := 40) cx.1 cx.2.1 dL_ticks_116 (by decide) ?_
        refine lv_icmp_ge (tgt := 199) cx.1 cx.2.1 dL_ticks_118 (by decide) (fun _ => ?_) (fun h9 => absurd h40 h9)
        exact hj199 _ _ hI
  ·
    refine lv_icmp_ge (tgt := 84) cx.1 cx.2.1 dL_ticks_76 (by decide) (fun c_3 => ?_) (fun c_3 => ?_)
    · refine lv_aload_n cx.1 cx.2.1 dL_ticks_84 rfl (lv_at hl 5 rfl) ?_
      refine lv_iconst (v := 3) cx.1 cx.2.1 dL_ticks_85 (by decide) ?_
      refine lr_c cx hI (vp_in_nI (n := 3) (by decide) (by decide)) dL_ticks_86 ?_
      refine k_top (y := xk v) rfl ?_
      exact k_top (many_t hk hk1 hc (by omega) c_3) (hj87 _ _ hI)
    · refine lv_iload cx.1 cx.2.1 dL_ticks_79 (lv_at hl 0 rfl) ?_
      refine lv_goto (tgt := 87) cx.1 cx.2.1 dL_ticks_81 (by decide) ?_
      exact k_top (many_f hk hk1 hc (by omega) c_3) (hj87 _ _ hI)
theorem kL_ticks (l : Launch) (D : va_G) (ca : Nat → ClassId) (ad : Nat → Nat) (oa cb : Nat) {v : XS} {n g : Nat} (h : zI n v) (hn : n + 2 ≤ 1000) (hg : g < 40) (hlS : l.stackTraces = false) : CG l yL_ticks cL_ticks 9 (some .boolean) { frames := 9, cells := 1, slots := 6, locals := 201 } D ca (lw ad oa cb ca v (lO v) (lC v) []) [.ref (ad 0), .int (nI g), .ref oa, .ref cb] (some (.int 1)) (LW (n + 2) ad oa cb ca) 1 6 := by
  obtain ⟨c1, m1, hX⟩ := h
  obtain ⟨ch, k1, k2, k3⟩ := hX.1.2.2.1
  by_cases hp : xp v = 1
  · by_cases hl : nI g ≤ xl v
    · by_cases hm : m1 < 40
      · exact kL_ticks_c l D ca ad oa cb hX hn k3 k1 k2 hg hp hl hm hlS
      · have h40 := hX.2.2.1.1
        obtain rfl : m1 = 40 := by omega
        exact kL_ticks_d l D ca ad oa cb hX hn k3 k1 k2 hg hp hl hlS
    · exact kL_ticks_b l D ca ad oa cb hX hn k3 k1 k2 hg hp hl hlS
  · exact kL_ticks_a l D ca ad oa cb hX hn k3 k1 k2 hg hp hlS

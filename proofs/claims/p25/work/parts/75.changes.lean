/-! MINE: the law's changes. -/
set_option maxHeartbeats 4000000 in
set_option maxRecDepth 100000 in
theorem kL_changes5 (l : Launch) (D : va_G) (ca : Nat → ClassId) (ad : Nat → Nat) (oa cb : Nat) {v : XS} {n xx yy : Nat} (h : zI n v) (hn : n + 2 ≤ 1000) (hXx : xx < 2 ^ 30) (hY : yy < 2 ^ 30) (hlS : l.stackTraces = false) : CG l yL_changes cL_changes 12 (some .boolean) { frames := 9, cells := 1, slots := 6, locals := 201 } D ca (lw ad oa cb ca v (lO v) (lC v) []) [.ref (ad 0), .int 5, .int (nI xx), .int (nI yy), .ref oa, .ref cb] (some (.int 1)) (LW (n + 2) ad oa cb ca) 1 6 := by
  refine CG.of (by decide) (Nat.le_of_ble_eq_true rfl) ?_
  intro p e s m below meth c0 A ls cx hml hr hlk hE hI hl
  have hl : lv_has ls 12 [(0, .ref (ad 0)), (1, .int 5), (2, .int (nI xx)), (3, .int (nI yy)), (4, .ref oa), (5, .ref cb)] := hl
  obtain ⟨c1, m1, hX⟩ := h
  have hA : ∀ j, j < 40 → zA v j := fun j hj => (hX.1.1 j hj).1
  have hZ : ∀ j, j < 40 → zS v j := fun j hj => (hX.1.1 j hj).2
  have hn1 := hX.2.1.1
  have hI : KI D A (lw ad oa cb ca v (lO v) (lK (xp v) (xt v) (xq v) (xk v) (xl v) (xm v) (xc v)) []) s.heap s.heap [] := hI
  obtain ⟨q, hq, q1, q2⟩ := most_ex hY (nI xx - nI xx / 3 * 3)
  have hNn : ∀ j, j < c1 → vp_in (xN v (nI j).toNatClampNeg) 40 := fun j hj => by rw [nI_clamp (by omega)]; exact hX.2.1.2.2 j hj
  refine lv_aload_n cx.1 cx.2.1 dL_changes_0 rfl (lv_at hl 0 rfl) ?_
  refine lc_i 0 cx (hl.1.trans hml.symm) (kX0_shadowRows l D ca ad v) hI wk_171 wk_168 wk_169 wk_170 ⟨rfl, by decide +kernel⟩ rfl ⟨rfl, rfl⟩ ⟨Nat.le_of_ble_eq_true rfl, Nat.le_of_ble_eq_true rfl⟩ (Nat.le_of_ble_eq_true rfl) dL_changes_1 ⟨Nat.le_of_ble_eq_true rfl, Nat.le_of_ble_eq_true rfl⟩ rfl (fun H locs hI => ?_)
  refine lv_istore (lv' := [(6, .int (xShRows v 40)), (0, .ref (ad 0)), (1, .int 5), (2, .int (nI xx)), (3, .int (nI yy)), (4, .ref oa), (5, .ref cb)]) cx.1 cx.2.1 dL_changes_4 hl (by decide) rfl (fun ls hl => ?_)
  refine lv_iconst (v := 0) cx.1 cx.2.1 dL_changes_6 (by decide) ?_
  refine lv_istore (lv' := [(7, .int 0), (6, .int (xShRows v 40)), (0, .ref (ad 0)), (1, .int 5), (2, .int (nI xx)), (3, .int (nI yy)), (4, .ref oa), (5, .ref cb)]) cx.1 cx.2.1 dL_changes_7 hl (by decide) rfl (fun ls hl => ?_)
  refine lv_iconst (v := 0) cx.1 cx.2.1 dL_changes_9 (by decide) ?_
  refine lv_istore (lv' := [(8, .int 0), (7, .int 0), (6, .int (xShRows v 40)), (0, .ref (ad 0)), (1, .int 5), (2, .int (nI xx)), (3, .int (nI yy)), (4, .ref oa), (5, .ref cb)]) cx.1 cx.2.1 dL_changes_10 hl (by decide) rfl (fun ls hl => ?_)
  refine k_loop 40 (fun k => (lw ad oa cb ca v (lO v) (lK (xp v) (xt v) (xq v) (xk v) (xl v) (xm v) (xc v)) [])) (fun k => [(8, .int (nI k)), (7, .int (zGo v k)), (6, .int (xShRows v 40)), (0, .ref (ad 0)), (1, .int 5), (2, .int (nI xx)), (3, .int (nI yy)), (4, .ref oa), (5, .ref cb)]) hI (lv_sub hl [0, 1, 2, 3, 4, 5, 6, 7, 8] rfl) (fun H locs ls hI hl => ?_) (fun k hk H locs ls hI hl ih => ?_)
  · have hI : KI D A (lw ad oa cb ca v (lO v) (lK (xp v) (xt v) (xq v) (xk v) (xl v) (xm v) (xc v)) []) s.heap H locs := hI
    have hl : lv_has ls 12 [(8, .int (nI 40)), (7, .int (zGo v 40)), (6, .int (xShRows v 40)), (0, .ref (ad 0)), (1, .int 5), (2, .int (nI xx)), (3, .int (nI yy)), (4, .ref oa), (5, .ref cb)] := hl
    refine lv_iload cx.1 cx.2.1 dL_changes_12 (lv_at hl 0 rfl) ?_
    refine lv_bipush (v := 40) cx.1 cx.2.1 dL_changes_14 (by decide) ?_
    refine lv_icmp_ge (tgt := 56) cx.1 cx.2.1 dL_changes_16 (by decide) (fun _ => ?_) (fun h9 => absurd (by decide : (40 : Int32) ≤ nI 40) h9)
    refine lv_iload_n cx.1 cx.2.1 dL_changes_56 rfl (lv_at hl 4 rfl) ?_
    refine lv_iconst (v := 5) cx.1 cx.2.1 dL_changes_57 (by decide) ?_
    refine lv_icmp_ne (tgt := 200) cx.1 cx.2.1 dL_changes_58 (by decide) (fun h9 => absurd (by decide) h9) (fun _ => ?_)
    refine lv_iload_n cx.1 cx.2.1 dL_changes_61 rfl (lv_at hl 5 rfl) ?_
    refine lv_iconst (v := 3) cx.1 cx.2.1 dL_changes_62 (by decide) ?_
    refine lv_irem cx.1 cx.2.1 dL_changes_63 (by decide) ?_
    refine k_join (D := D) (A := A) 78 (lw ad oa cb ca v (lO v) (lK (xp v) (xt v) (xq v) (xk v) (xl v) (xm v) (xc v)) []) [.int (nI q)] (fun H locs hI => ?_) (fun hj78 => ?_)
    · refine lv_istore (lv' := [(8, .int (nI q)), (7, .int (zGo v 40)), (6, .int (xShRows v 40)), (0, .ref (ad 0)), (1, .int 5), (2, .int (nI xx)), (3, .int (nI yy)), (4, .ref oa), (5, .ref cb)]) cx.1 cx.2.1 dL_changes_78 hl (by decide) rfl (fun ls hl => ?_)
      rcases Decidable.em (xp v = 1 ∧ xm v = 40 ∧ xc v ≤ nI q) with hcan | hcan
      · refine lv_aload_n cx.1 cx.2.1 dL_changes_80 rfl (lv_at hl 3 rfl) ?_
        refine lv_iconst (v := 5) cx.1 cx.2.1 dL_changes_81 (by decide) ?_
        have hm1 : m1 = 40 := (m40 hX.2.2.1.1).mp (hX.2.2.1.2.symm.trans hcan.2.1)
        have hX1 := zX_cut (c := c1) (n := n) (v := v) (hm1 ▸ hX) hcan.1 (by omega)
        refine lv_iload cx.1 cx.2.1 dL_changes_82 (lv_at hl 0 rfl) ?_
        refine lv_iconst (v := 0) cx.1 cx.2.1 dL_changes_84 (by decide) ?_
        refine lv_iconst (v := 0) cx.1 cx.2.1 dL_changes_85 (by decide) ?_
        refine lc_h 5 cx hE (hl.1.trans hml.symm) (CA.ok (kL_asks5 l D ca ad v (nI q) 0 0 c1 hX.2.1.2.1 (by omega) hNn hlS) (fcut_0 hq hcan)) hI wk_213 wk_211 wk_212 wk_0 ⟨by decide, by decide, by decide +kernel⟩ rfl ⟨rfl, rfl⟩ ⟨Nat.le_of_ble_eq_true rfl, Nat.le_of_ble_eq_true rfl⟩ (Nat.le_of_ble_eq_true rfl) dL_changes_86 ⟨Nat.le_of_ble_eq_true rfl, Nat.le_of_ble_eq_true rfl⟩ rfl (fun H locs hI => ?_)
        refine lv_istore (lv' := [(9, .int (xc v)), (8, .int (nI q)), (7, .int (zGo v 40)), (6, .int (xShRows v 40)), (0, .ref (ad 0)), (1, .int 5), (2, .int (nI xx)), (3, .int (nI yy)), (4, .ref oa), (5, .ref cb)]) cx.1 cx.2.1 dL_changes_89 hl (by decide) rfl (fun ls hl => ?_)
        refine lv_aload cx.1 cx.2.1 dL_changes_91 (lv_at hl 9 rfl) ?_
        refine lv_iconst (v := 0) cx.1 cx.2.1 dL_changes_93 (by decide) ?_
        refine lr_c cx hI (vp_in_nI (n := 0) (by decide) (by decide)) dL_changes_94 ?_
        refine k_top (y := xp v) rfl ?_
        refine lv_iconst (v := 1) cx.1 cx.2.1 dL_changes_95 (by decide) ?_
        refine k_join (D := D) (A := A) 123 (lw ad oa cb ca (xUp (xPlay v c1) 2) (lO v) (lK (xp v) (xt v) (xq v) (xk v) (xl v) (xm v) (xc v)) []) [.int 1] (fun H locs hI => ?_) (fun hj123 => ?_)
        · refine lv_istore (lv' := [(10, .int 1), (9, .int (xc v)), (8, .int (nI q)), (7, .int (zGo v 40)), (6, .int (xShRows v 40)), (0, .ref (ad 0)), (1, .int 5), (2, .int (nI xx)), (3, .int (nI yy)), (4, .ref oa), (5, .ref cb)]) cx.1 cx.2.1 dL_changes_123 hl (by decide) rfl (fun ls hl => ?_)
          refine lv_aload cx.1 cx.2.1 dL_changes_125 (lv_at hl 10 rfl) ?_
          refine lv_bipush (v := 6) cx.1 cx.2.1 dL_changes_127 (by decide) ?_
          refine lr_c cx hI (vp_in_nI (n := 6) (by decide) (by decide)) dL_changes_129 ?_
          refine k_top (y := xc v) rfl ?_
          refine lv_istore (lv' := [(11, .int (xc v)), (10, .int 1), (9, .int (xc v)), (8, .int (nI q)), (7, .int (zGo v 40)), (6, .int (xShRows v 40)), (0, .ref (ad 0)), (1, .int 5), (2, .int (nI xx)), (3, .int (nI yy)), (4, .ref oa), (5, .ref cb)]) cx.1 cx.2.1 dL_changes_130 hl (by decide) rfl (fun ls hl => ?_)
          refine lv_aload cx.1 cx.2.1 dL_changes_132 (lv_at hl 11 rfl) ?_
          refine lv_iconst (v := 0) cx.1 cx.2.1 dL_changes_134 (by decide) ?_
          refine lv_iload cx.1 cx.2.1 dL_changes_135 (lv_at hl 1 rfl) ?_
          refine lv_if_eq (tgt := 144) cx.1 cx.2.1 dL_changes_137 (by decide) (fun h9 => absurd h9 (by decide)) (fun _ => ?_)
          refine lv_iconst (v := 2) cx.1 cx.2.1 dL_changes_140 (by decide) ?_
          refine lv_goto (tgt := 148) cx.1 cx.2.1 dL_changes_141 (by decide) ?_
          refine ls_c0 cx hI dL_changes_148 (fun H locs hI => ?_)
          refine lv_aload cx.1 cx.2.1 dL_changes_149 (lv_at hl 11 rfl) ?_
          refine lv_bipush (v := 6) cx.1 cx.2.1 dL_changes_151 (by decide) ?_
          refine lv_iload cx.1 cx.2.1 dL_changes_153 (lv_at hl 1 rfl) ?_
          refine lv_if_eq (tgt := 162) cx.1 cx.2.1 dL_changes_155 (by decide) (fun h9 => absurd h9 (by decide)) (fun _ => ?_)
          refine lv_iconst (v := 0) cx.1 cx.2.1 dL_changes_158 (by decide) ?_
          refine lv_goto (tgt := 164) cx.1 cx.2.1 dL_changes_159 (by decide) ?_
          refine ls_c6 cx hI dL_changes_164 (fun H locs hI => ?_)
          refine lv_iload cx.1 cx.2.1 dL_changes_165 (lv_at hl 2 rfl) ?_
          refine lv_iload cx.1 cx.2.1 dL_changes_167 (lv_at hl 1 rfl) ?_
          refine lv_if_eq (tgt := 177) cx.1 cx.2.1 dL_changes_169 (by decide) (fun h9 => absurd h9 (by decide)) (fun _ => ?_)
          refine lv_iload cx.1 cx.2.1 dL_changes_172 (lv_at hl 0 rfl) ?_
          refine lv_goto (tgt := 179) cx.1 cx.2.1 dL_changes_174 (by decide) ?_
          refine lv_icmp_ne (tgt := 198) cx.1 cx.2.1 dL_changes_179 (by decide) (fun h9 => absurd rfl h9) (fun _ => ?_)
          refine lv_iload cx.1 cx.2.1 dL_changes_182 (lv_at hl 1 rfl) ?_
          refine lv_if_eq (tgt := 194) cx.1 cx.2.1 dL_changes_184 (by decide) (fun h9 => absurd h9 (by decide)) (fun _ => ?_)
          refine lv_aload_n cx.1 cx.2.1 dL_changes_187 rfl (lv_at hl 6 rfl) ?_
          refine lc_i 0 cx (hl.1.trans hml.symm) (kX0_behind l D ca ad (xUp (xPlay v c1) 2)) hI wk_179 wk_176 wk_177 wk_178 ⟨rfl, by decide +kernel⟩ rfl ⟨rfl, rfl⟩ ⟨Nat.le_of_ble_eq_true rfl, Nat.le_of_ble_eq_true rfl⟩ (Nat.le_of_ble_eq_true rfl) dL_changes_188 ⟨Nat.le_of_ble_eq_true rfl, Nat.le_of_ble_eq_true rfl⟩ rfl (fun H locs hI => ?_)
          refine lv_if_ne (tgt := 198) cx.1 cx.2.1 dL_changes_191 (by decide) (fun h9 => absurd (cut_beh hX1 rfl) h9) (fun _ => ?_)
          refine lv_iconst (v := 1) cx.1 cx.2.1 dL_changes_194 (by decide) ?_
          refine lv_goto (tgt := 199) cx.1 cx.2.1 dL_changes_195 (by decide) ?_
          exact ke_g (lw ad oa cb ca (xUp (xPlay v c1) 2) (lO v) (lK 2 (xt v) (xq v) (xk v) (xl v) (xm v) 0) []) [] cx hr hlk hI (Nat.le_of_ble_eq_true rfl) (Nat.le_of_ble_eq_true rfl) dL_changes_199 rfl rfl ⟨_, ⟨0, 40, hX1.mono (fun _ q => q) (by omega)⟩, lw_eq (lO_of (v := v) (v' := xUp (xPlay v c1) 2) (play_o v c1).1 (play_o v c1).2.1).symm (lC_cut hX.2.1.2.1)⟩
        ·
          refine lv_icmp_ne (tgt := 122) cx.1 cx.2.1 dL_changes_96 (by decide) (fun h9 => absurd hcan.1 h9) (fun _ => ?_)
          refine lv_aload cx.1 cx.2.1 dL_changes_99 (lv_at hl 9 rfl) ?_
          refine lv_iconst (v := 5) cx.1 cx.2.1 dL_changes_101 (by decide) ?_
          refine lr_c cx hI (vp_in_nI (n := 5) (by decide) (by decide)) dL_changes_102 ?_
          refine k_top (y := xm v) rfl ?_
          refine lv_bipush (v := 40) cx.1 cx.2.1 dL_changes_103 (by decide) ?_
          refine lv_icmp_ne (tgt := 122) cx.1 cx.2.1 dL_changes_105 (by decide) (fun h9 => absurd hcan.2.1 h9) (fun _ => ?_)
          refine lv_aload cx.1 cx.2.1 dL_changes_108 (lv_at hl 9 rfl) ?_
          refine lv_bipush (v := 6) cx.1 cx.2.1 dL_changes_110 (by decide) ?_
          refine lr_c cx hI (vp_in_nI (n := 6) (by decide) (by decide)) dL_changes_112 ?_
          refine k_top (y := xc v) rfl ?_
          refine lv_iload cx.1 cx.2.1 dL_changes_113 (lv_at hl 1 rfl) ?_
          refine lv_icmp_gt (tgt := 122) cx.1 cx.2.1 dL_changes_115 (by decide) (fun h9 => absurd h9 (Int32.not_lt.mpr hcan.2.2)) (fun _ => ?_)
          refine lv_iconst (v := 1) cx.1 cx.2.1 dL_changes_118 (by decide) ?_
          refine lv_goto (tgt := 123) cx.1 cx.2.1 dL_changes_119 (by decide) ?_
          exact k_top rfl (hj123 _ _ hI)
      · refine lv_aload_n cx.1 cx.2.1 dL_changes_80 rfl (lv_at hl 3 rfl) ?_
        refine lv_iconst (v := 5) cx.1 cx.2.1 dL_changes_81 (by decide) ?_
        refine lv_iload cx.1 cx.2.1 dL_changes_82 (lv_at hl 0 rfl) ?_
        refine lv_iconst (v := 0) cx.1 cx.2.1 dL_changes_84 (by decide) ?_
        refine lv_iconst (v := 0) cx.1 cx.2.1 dL_changes_85 (by decide) ?_
        refine lc_h 5 cx hE (hl.1.trans hml.symm) (CA.f2 (kL_asks5 l D ca ad v (nI q) 0 0 c1 hX.2.1.2.1 (by omega) hNn hlS) (fcut_2 hq hX.2.2.1 hcan)) hI wk_213 wk_211 wk_212 wk_0 ⟨by decide, by decide, by decide +kernel⟩ rfl ⟨rfl, rfl⟩ ⟨Nat.le_of_ble_eq_true rfl, Nat.le_of_ble_eq_true rfl⟩ (Nat.le_of_ble_eq_true rfl) dL_changes_86 ⟨Nat.le_of_ble_eq_true rfl, Nat.le_of_ble_eq_true rfl⟩ rfl (fun H locs hI => ?_)
        refine lv_istore (lv' := [(9, .int (-8)), (8, .int (nI q)), (7, .int (zGo v 40)), (6, .int (xShRows v 40)), (0, .ref (ad 0)), (1, .int 5), (2, .int (nI xx)), (3, .int (nI yy)), (4, .ref oa), (5, .ref cb)]) cx.1 cx.2.1 dL_changes_89 hl (by decide) rfl (fun ls hl => ?_)
        refine lv_aload cx.1 cx.2.1 dL_changes_91 (lv_at hl 9 rfl) ?_
        refine lv_iconst (v := 0) cx.1 cx.2.1 dL_changes_93 (by decide) ?_
        refine lr_c cx hI (vp_in_nI (n := 0) (by decide) (by decide)) dL_changes_94 ?_
        refine k_top (y := xp v) rfl ?_
        refine lv_iconst (v := 1) cx.1 cx.2.1 dL_changes_95 (by decide) ?_
        refine k_join (D := D) (A := A) 123 (lw ad oa cb ca v (lO v) (lK (xp v) (xt v) (xq v) (xk v) (xl v) (xm v) (xc v)) []) [.int 0] (fun H locs hI => ?_) (fun hj123 => ?_)
        · refine lv_istore (lv' := [(10, .int 0), (9, .int (-8)), (8, .int (nI q)), (7, .int (zGo v 40)), (6, .int (xShRows v 40)), (0, .ref (ad 0)), (1, .int 5), (2, .int (nI xx)), (3, .int (nI yy)), (4, .ref oa), (5, .ref cb)]) cx.1 cx.2.1 dL_changes_123 hl (by decide) rfl (fun ls hl => ?_)
          refine lv_aload cx.1 cx.2.1 dL_changes_125 (lv_at hl 10 rfl) ?_
          refine lv_bipush (v := 6) cx.1 cx.2.1 dL_changes_127 (by decide) ?_
          refine lr_c cx hI (vp_in_nI (n := 6) (by decide) (by decide)) dL_changes_129 ?_
          refine k_top (y := xc v) rfl ?_
          refine lv_istore (lv' := [(11, .int (xc v)), (10, .int 0), (9, .int (-8)), (8, .int (nI q)), (7, .int (zGo v 40)), (6, .int (xShRows v 40)), (0, .ref (ad 0)), (1, .int 5), (2, .int (nI xx)), (3, .int (nI yy)), (4, .ref oa), (5, .ref cb)]) cx.1 cx.2.1 dL_changes_130 hl (by decide) rfl (fun ls hl => ?_)
          refine lv_aload cx.1 cx.2.1 dL_changes_132 (lv_at hl 11 rfl) ?_
          refine lv_iconst (v := 0) cx.1 cx.2.1 dL_changes_134 (by decide) ?_
          refine lv_iload cx.1 cx.2.1 dL_changes_135 (lv_at hl 1 rfl) ?_
          refine lv_if_eq (tgt := 144) cx.1 cx.2.1 dL_changes_137 (by decide) (fun _ => ?_) (fun h9 => absurd (by decide) h9)
          refine lv_aload cx.1 cx.2.1 dL_changes_144 (lv_at hl 11 rfl) ?_
          refine lv_iconst (v := 0) cx.1 cx.2.1 dL_changes_146 (by decide) ?_
          refine lr_c cx hI (vp_in_nI (n := 0) (by decide) (by decide)) dL_changes_147 ?_
          refine k_top (y := xp v) rfl ?_
          refine ls_c0 cx hI dL_changes_148 (fun H locs hI => ?_)
          refine lv_aload cx.1 cx.2.1 dL_changes_149 (lv_at hl 11 rfl) ?_
          refine lv_bipush (v := 6) cx.1 cx.2.1 dL_changes_151 (by decide) ?_
          refine lv_iload cx.1 cx.2.1 dL_changes_153 (lv_at hl 1 rfl) ?_
          refine lv_if_eq (tgt := 162) cx.1 cx.2.1 dL_changes_155 (by decide) (fun _ => ?_) (fun h9 => absurd (by decide) h9)
          refine lv_iload cx.1 cx.2.1 dL_changes_162 (lv_at hl 0 rfl) ?_
          refine ls_c6 cx hI dL_changes_164 (fun H locs hI => ?_)
          refine lv_iload cx.1 cx.2.1 dL_changes_165 (lv_at hl 2 rfl) ?_
          refine lv_iload cx.1 cx.2.1 dL_changes_167 (lv_at hl 1 rfl) ?_
          refine lv_if_eq (tgt := 177) cx.1 cx.2.1 dL_changes_169 (by decide) (fun _ => ?_) (fun h9 => absurd (by decide) h9)
          refine lv_bipush (v := (-8)) cx.1 cx.2.1 dL_changes_177 (by decide) ?_
          refine lv_icmp_ne (tgt := 198) cx.1 cx.2.1 dL_changes_179 (by decide) (fun h9 => absurd (by decide) h9) (fun _ => ?_)
          refine lv_iload cx.1 cx.2.1 dL_changes_182 (lv_at hl 1 rfl) ?_
          refine lv_if_eq (tgt := 194) cx.1 cx.2.1 dL_changes_184 (by decide) (fun _ => ?_) (fun h9 => absurd (by decide) h9)
          refine lv_iconst (v := 1) cx.1 cx.2.1 dL_changes_194 (by decide) ?_
          refine lv_goto (tgt := 199) cx.1 cx.2.1 dL_changes_195 (by decide) ?_
          exact ke_g (lw ad oa cb ca v (lO v) (lK (xp v) (xt v) (xq v) (xk v) (xl v) (xm v) (xc v)) []) [] cx hr hlk hI (Nat.le_of_ble_eq_true rfl) (Nat.le_of_ble_eq_true rfl) dL_changes_199 rfl rfl ⟨v, ⟨c1, m1, hX.mono (fun _ q => q) (by omega)⟩, lw_eq rfl rfl⟩
        ·
          refine lv_icmp_ne (tgt := 122) cx.1 cx.2.1 dL_changes_96 (by decide) (fun c_2 => ?_) (fun c_2 => ?_)
          · refine lv_iconst (v := 0) cx.1 cx.2.1 dL_changes_122 (by decide) ?_
            exact k_top rfl (hj123 _ _ hI)
          · refine lv_aload cx.1 cx.2.1 dL_changes_99 (lv_at hl 9 rfl) ?_
            refine lv_iconst (v := 5) cx.1 cx.2.1 dL_changes_101 (by decide) ?_
            refine lr_c cx hI (vp_in_nI (n := 5) (by decide) (by decide)) dL_changes_102 ?_
            refine k_top (y := xm v) rfl ?_
            refine lv_bipush (v := 40) cx.1 cx.2.1 dL_changes_103 (by decide) ?_
            refine lv_icmp_ne (tgt := 122) cx.1 cx.2.1 dL_changes_105 (by decide) (fun c_3 => ?_) (fun c_3 => ?_)
            · refine lv_iconst (v := 0) cx.1 cx.2.1 dL_changes_122 (by decide) ?_
              exact k_top rfl (hj123 _ _ hI)
            · refine lv_aload cx.1 cx.2.1 dL_changes_108 (lv_at hl 9 rfl) ?_
              refine lv_bipush (v := 6) cx.1 cx.2.1 dL_changes_110 (by decide) ?_
              refine lr_c cx hI (vp_in_nI (n := 6) (by decide) (by decide)) dL_changes_112 ?_
              refine k_top (y := xc v) rfl ?_
              refine lv_iload cx.1 cx.2.1 dL_changes_113 (lv_at hl 1 rfl) ?_
              refine lv_icmp_gt (tgt := 122) cx.1 cx.2.1 dL_changes_115 (by decide) (fun c_4 => ?_) (fun c_4 => ?_)
              · refine lv_iconst (v := 0) cx.1 cx.2.1 dL_changes_122 (by decide) ?_
                exact k_top rfl (hj123 _ _ hI)
              · refine lv_iconst (v := 1) cx.1 cx.2.1 dL_changes_118 (by decide) ?_
                refine lv_goto (tgt := 123) cx.1 cx.2.1 dL_changes_119 (by decide) ?_
                exact k_top (absurd ⟨c_2, c_3, Int32.not_lt.mp c_4⟩ hcan) (hj123 _ _ hI)
    ·
      refine lv_if_ne (tgt := 73) cx.1 cx.2.1 dL_changes_64 (by decide) (fun c_5 => ?_) (fun c_5 => ?_)
      · refine lv_iload_n cx.1 cx.2.1 dL_changes_73 rfl (lv_at hl 6 rfl) ?_
        refine lv_sipush (v := 1001) cx.1 cx.2.1 dL_changes_74 (by decide) ?_
        refine lv_irem cx.1 cx.2.1 dL_changes_77 (by decide) ?_
        exact k_top (by first | exact q1 c_5 | exact q2 c_5) (hj78 _ _ hI)
      · refine lv_iload_n cx.1 cx.2.1 dL_changes_67 rfl (lv_at hl 6 rfl) ?_
        refine lv_iconst (v := 4) cx.1 cx.2.1 dL_changes_68 (by decide) ?_
        refine lv_irem cx.1 cx.2.1 dL_changes_69 (by decide) ?_
        refine lv_goto (tgt := 78) cx.1 cx.2.1 dL_changes_70 (by decide) ?_
        exact k_top (by first | exact q1 c_5 | exact q2 c_5) (hj78 _ _ hI)
  · have hI : KI D A (lw ad oa cb ca v (lO v) (lK (xp v) (xt v) (xq v) (xk v) (xl v) (xm v) (xc v)) []) s.heap H locs := hI
    have hl : lv_has ls 12 [(8, .int (nI k)), (7, .int (zGo v k)), (6, .int (xShRows v 40)), (0, .ref (ad 0)), (1, .int 5), (2, .int (nI xx)), (3, .int (nI yy)), (4, .ref oa), (5, .ref cb)] := hl
    refine lv_iload cx.1 cx.2.1 dL_changes_12 (lv_at hl 0 rfl) ?_
    refine lv_bipush (v := 40) cx.1 cx.2.1 dL_changes_14 (by decide) ?_
    refine lv_icmp_ge (tgt := 56) cx.1 cx.2.1 dL_changes_16 (by decide) (fun h9 => absurd h9 (nI_ge hk (by decide))) (fun _ => ?_)
    refine lv_iload cx.1 cx.2.1 dL_changes_19 (lv_at hl 1 rfl) ?_
    refine lv_aload cx.1 cx.2.1 dL_changes_21 (lv_at hl 7 rfl) ?_
    refine lv_iload cx.1 cx.2.1 dL_changes_23 (lv_at hl 0 rfl) ?_
    refine lr_on cx hI hk dL_changes_25 ?_
    refine k_join (D := D) (A := A) 47 (lw ad oa cb ca v (lO v) (lK (xp v) (xt v) (xq v) (xk v) (xl v) (xm v) (xc v)) []) [.int (b2i (xOld v (nI k) && !xSeen v (nI k))), .int (zGo v k)] (fun H locs hI => ?_) (fun hj47 => ?_)
    · refine lv_iadd cx.1 cx.2.1 dL_changes_47 ?_
      refine lv_istore (lv' := [(7, .int ((zGo v k) + (b2i (xOld v (nI k) && !xSeen v (nI k))))), (8, .int (nI k)), (6, .int (xShRows v 40)), (0, .ref (ad 0)), (1, .int 5), (2, .int (nI xx)), (3, .int (nI yy)), (4, .ref oa), (5, .ref cb)]) cx.1 cx.2.1 dL_changes_48 hl (by decide) rfl (fun ls hl => ?_)
      refine lv_iinc (v := nI (k + 1)) (lv' := [(8, .int (nI (k + 1))), (7, .int ((zGo v k) + (b2i (xOld v (nI k) && !xSeen v (nI k))))), (6, .int (xShRows v 40)), (0, .ref (ad 0)), (1, .int 5), (2, .int (nI xx)), (3, .int (nI yy)), (4, .ref oa), (5, .ref cb)]) cx.1 cx.2.1 dL_changes_50 hl (k := 1) rfl (nI_1 k) (by decide) rfl (fun ls hl => ?_)
      refine lv_goto (tgt := 12) cx.1 cx.2.1 dL_changes_53 (by decide) ?_
      refine ih _ _ _ ?_ ?_
      · show KI D A (lw ad oa cb ca v (lO v) (lK (xp v) (xt v) (xq v) (xk v) (xl v) (xm v) (xc v)) []) s.heap _ _
        exact hI
      · show lv_has _ _ [(8, .int (nI (k + 1))), (7, .int (zGo v (k + 1))), (6, .int (xShRows v 40)), (0, .ref (ad 0)), (1, .int 5), (2, .int (nI xx)), (3, .int (nI yy)), (4, .ref oa), (5, .ref cb)]
        exact lv_sub hl [0, 1, 2, 3, 4, 5, 6, 7, 8] rfl
    ·
      refine lv_if_lt (tgt := 46) cx.1 cx.2.1 dL_changes_26 (by decide) (fun c_7 => ?_) (fun c_7 => ?_)
      · refine lv_iconst (v := 0) cx.1 cx.2.1 dL_changes_46 (by decide) ?_
        exact k_top (by first | exact go_a (lO_lt hk (hA k hk) c_7) | exact go_b c_7) (hj47 _ _ hI)
      · refine lv_aload_n cx.1 cx.2.1 dL_changes_29 rfl (lv_at hl 3 rfl) ?_
        refine lv_aload cx.1 cx.2.1 dL_changes_30 (lv_at hl 7 rfl) ?_
        refine lv_aload cx.1 cx.2.1 dL_changes_32 (lv_at hl 8 rfl) ?_
        refine lv_iload cx.1 cx.2.1 dL_changes_34 (lv_at hl 0 rfl) ?_
        refine lc_w 4 cx (hl.1.trans hml.symm) (kL_isSeen l D ca ad oa cb v (lO v) (xp v) (xt v) (xq v) (xk v) (xl v) (xm v) (xc v) hk (hA k hk) (hZ k hk) rfl rfl) hI wk_82 wk_80 wk_81 wk_0 ⟨by decide, by decide, by decide +kernel⟩ rfl ⟨rfl, rfl⟩ ⟨Nat.le_of_ble_eq_true rfl, Nat.le_of_ble_eq_true rfl⟩ (Nat.le_of_ble_eq_true rfl) dL_changes_36 ⟨Nat.le_of_ble_eq_true rfl, Nat.le_of_ble_eq_true rfl⟩ rfl (fun H locs hI => ?_)
        refine kb_ne (tgt := 46) cx dL_changes_39 (by decide) (fun c_8 => ?_) (fun c_8 => ?_)
        · refine lv_iconst (v := 0) cx.1 cx.2.1 dL_changes_46 (by decide) ?_
          exact k_top (by first | exact go_a (lO_lt hk (hA k hk) c_8) | exact go_b c_8) (hj47 _ _ hI)
        · refine lv_iconst (v := 1) cx.1 cx.2.1 dL_changes_42 (by decide) ?_
          refine lv_goto (tgt := 47) cx.1 cx.2.1 dL_changes_43 (by decide) ?_
          exact k_top (go_c (lO_ge hk (hA k hk) c_7) c_8) (hj47 _ _ hI)
set_option maxHeartbeats 4000000 in
set_option maxRecDepth 100000 in
theorem kL_changes6 (l : Launch) (D : va_G) (ca : Nat → ClassId) (ad : Nat → Nat) (oa cb : Nat) {v : XS} {n xx yy : Nat} (h : zI n v) (hn : n + 2 ≤ 1000) (hXx : xx < 2 ^ 30) (hY : yy < 2 ^ 30) (hlS : l.stackTraces = false) : CG l yL_changes cL_changes 12 (some .boolean) { frames := 9, cells := 1, slots := 6, locals := 201 } D ca (lw ad oa cb ca v (lO v) (lC v) []) [.ref (ad 0), .int 6, .int (nI xx), .int (nI yy), .ref oa, .ref cb] (some (.int 1)) (LW (n + 2) ad oa cb ca) 1 6 := by
  refine CG.of (by decide) (Nat.le_of_ble_eq_true rfl) ?_
  intro p e s m below meth c0 A ls cx hml hr hlk hE hI hl
  have hl : lv_has ls 12 [(0, .ref (ad 0)), (1, .int 6), (2, .int (nI xx)), (3, .int (nI yy)), (4, .ref oa), (5, .ref cb)] := hl
  obtain ⟨c1, m1, hX⟩ := h
  have hA : ∀ j, j < 40 → zA v j := fun j hj => (hX.1.1 j hj).1
  have hZ : ∀ j, j < 40 → zS v j := fun j hj => (hX.1.1 j hj).2
  have hn1 := hX.2.1.1
  have hI : KI D A (lw ad oa cb ca v (lO v) (lK (xp v) (xt v) (xq v) (xk v) (xl v) (xm v) (xc v)) []) s.heap s.heap [] := hI
  refine lv_aload_n cx.1 cx.2.1 dL_changes_0 rfl (lv_at hl 0 rfl) ?_
  refine lc_i 0 cx (hl.1.trans hml.symm) (kX0_shadowRows l D ca ad v) hI wk_171 wk_168 wk_169 wk_170 ⟨rfl, by decide +kernel⟩ rfl ⟨rfl, rfl⟩ ⟨Nat.le_of_ble_eq_true rfl, Nat.le_of_ble_eq_true rfl⟩ (Nat.le_of_ble_eq_true rfl) dL_changes_1 ⟨Nat.le_of_ble_eq_true rfl, Nat.le_of_ble_eq_true rfl⟩ rfl (fun H locs hI => ?_)
  refine lv_istore (lv' := [(6, .int (xShRows v 40)), (0, .ref (ad 0)), (1, .int 6), (2, .int (nI xx)), (3, .int (nI yy)), (4, .ref oa), (5, .ref cb)]) cx.1 cx.2.1 dL_changes_4 hl (by decide) rfl (fun ls hl => ?_)
  refine lv_iconst (v := 0) cx.1 cx.2.1 dL_changes_6 (by decide) ?_
  refine lv_istore (lv' := [(7, .int 0), (6, .int (xShRows v 40)), (0, .ref (ad 0)), (1, .int 6), (2, .int (nI xx)), (3, .int (nI yy)), (4, .ref oa), (5, .ref cb)]) cx.1 cx.2.1 dL_changes_7 hl (by decide) rfl (fun ls hl => ?_)
  refine lv_iconst (v := 0) cx.1 cx.2.1 dL_changes_9 (by decide) ?_
  refine lv_istore (lv' := [(8, .int 0), (7, .int 0), (6, .int (xShRows v 40)), (0, .ref (ad 0)), (1, .int 6), (2, .int (nI xx)), (3, .int (nI yy)), (4, .ref oa), (5, .ref cb)]) cx.1 cx.2.1 dL_changes_10 hl (by decide) rfl (fun ls hl => ?_)
  refine k_loop 40 (fun k => (lw ad oa cb ca v (lO v) (lK (xp v) (xt v) (xq v) (xk v) (xl v) (xm v) (xc v)) [])) (fun k => [(8, .int (nI k)), (7, .int (zGo v k)), (6, .int (xShRows v 40)), (0, .ref (ad 0)), (1, .int 6), (2, .int (nI xx)), (3, .int (nI yy)), (4, .ref oa), (5, .ref cb)]) hI (lv_sub hl [0, 1, 2, 3, 4, 5, 6, 7, 8] rfl) (fun H locs ls hI hl => ?_) (fun k hk H locs ls hI hl ih => ?_)
  · have hI : KI D A (lw ad oa cb ca v (lO v) (lK (xp v) (xt v) (xq v) (xk v) (xl v) (xm v) (xc v)) []) s.heap H locs := hI
    have hl : lv_has ls 12 [(8, .int (nI 40)), (7, .int (zGo v 40)), (6, .int (xShRows v 40)), (0, .ref (ad 0)), (1, .int 6), (2, .int (nI xx)), (3, .int (nI yy)), (4, .ref oa), (5, .ref cb)] := hl
    refine lv_iload cx.1 cx.2.1 dL_changes_12 (lv_at hl 0 rfl) ?_
    refine lv_bipush (v := 40) cx.1 cx.2.1 dL_changes_14 (by decide) ?_
    refine lv_icmp_ge (tgt := 56) cx.1 cx.2.1 dL_changes_16 (by decide) (fun _ => ?_) (fun h9 => absurd (by decide : (40 : Int32) ≤ nI 40) h9)
    refine lv_iload_n cx.1 cx.2.1 dL_changes_56 rfl (lv_at hl 4 rfl) ?_
    refine lv_iconst (v := 5) cx.1 cx.2.1 dL_changes_57 (by decide) ?_
    refine lv_icmp_ne (tgt := 200) cx.1 cx.2.1 dL_changes_58 (by decide) (fun _ => ?_) (fun h9 => absurd h9 (by decide))
    refine lv_iload_n cx.1 cx.2.1 dL_changes_200 rfl (lv_at hl 4 rfl) ?_
    refine lv_bipush (v := 6) cx.1 cx.2.1 dL_changes_201 (by decide) ?_
    refine lv_icmp_ne (tgt := 325) cx.1 cx.2.1 dL_changes_203 (by decide) (fun h9 => absurd (by decide) h9) (fun _ => ?_)
    rcases Decidable.em (xp v = 2) with hcan | hcan
    · refine lv_aload_n cx.1 cx.2.1 dL_changes_206 rfl (lv_at hl 3 rfl) ?_
      refine lv_bipush (v := 6) cx.1 cx.2.1 dL_changes_207 (by decide) ?_
      refine lv_iconst (v := 0) cx.1 cx.2.1 dL_changes_209 (by decide) ?_
      refine lv_iconst (v := 0) cx.1 cx.2.1 dL_changes_210 (by decide) ?_
      refine lv_iconst (v := 0) cx.1 cx.2.1 dL_changes_211 (by decide) ?_
      refine lc_h 5 cx hE (hl.1.trans hml.symm) (CA.ok (kL_asks6 l D ca ad v 0 0 0 hlS) (fund_0 hcan)) hI wk_213 wk_211 wk_212 wk_0 ⟨by decide, by decide, by decide +kernel⟩ rfl ⟨rfl, rfl⟩ ⟨Nat.le_of_ble_eq_true rfl, Nat.le_of_ble_eq_true rfl⟩ (Nat.le_of_ble_eq_true rfl) dL_changes_212 ⟨Nat.le_of_ble_eq_true rfl, Nat.le_of_ble_eq_true rfl⟩ rfl (fun H locs hI => ?_)
      refine lv_istore (lv' := [(8, .int (xRemN v 40)), (7, .int (zGo v 40)), (6, .int (xShRows v 40)), (0, .ref (ad 0)), (1, .int 6), (2, .int (nI xx)), (3, .int (nI yy)), (4, .ref oa), (5, .ref cb)]) cx.1 cx.2.1 dL_changes_215 hl (by decide) rfl (fun ls hl => ?_)
      refine lv_aload cx.1 cx.2.1 dL_changes_217 (lv_at hl 8 rfl) ?_
      refine lv_iconst (v := 0) cx.1 cx.2.1 dL_changes_219 (by decide) ?_
      refine lr_c cx hI (vp_in_nI (n := 0) (by decide) (by decide)) dL_changes_220 ?_
      refine k_top (y := xp v) rfl ?_
      refine lv_iconst (v := 2) cx.1 cx.2.1 dL_changes_221 (by decide) ?_
      refine lv_icmp_ne (tgt := 229) cx.1 cx.2.1 dL_changes_222 (by decide) (fun h9 => absurd hcan h9) (fun _ => ?_)
      refine lv_iconst (v := 1) cx.1 cx.2.1 dL_changes_225 (by decide) ?_
      refine lv_goto (tgt := 230) cx.1 cx.2.1 dL_changes_226 (by decide) ?_
      refine lv_istore (lv' := [(9, .int 1), (8, .int (xRemN v 40)), (7, .int (zGo v 40)), (6, .int (xShRows v 40)), (0, .ref (ad 0)), (1, .int 6), (2, .int (nI xx)), (3, .int (nI yy)), (4, .ref oa), (5, .ref cb)]) cx.1 cx.2.1 dL_changes_230 hl (by decide) rfl (fun ls hl => ?_)
      refine lv_iconst (v := 0) cx.1 cx.2.1 dL_changes_232 (by decide) ?_
      refine lv_istore (lv' := [(10, .int 0), (9, .int 1), (8, .int (xRemN v 40)), (7, .int (zGo v 40)), (6, .int (xShRows v 40)), (0, .ref (ad 0)), (1, .int 6), (2, .int (nI xx)), (3, .int (nI yy)), (4, .ref oa), (5, .ref cb)]) cx.1 cx.2.1 dL_changes_233 hl (by decide) rfl (fun ls hl => ?_)
      refine k_loop 40 (fun k => (lw ad oa cb ca (xEnd (xRem v 40)) (zFo v (xEnd (xRem v 40)) k) (lK (xp v) (xt v) (xq v) (xk v) (xl v) (xm v) (xc v)) [])) (fun k => [(10, .int (nI k)), (9, .int 1), (8, .int (xRemN v 40)), (7, .int (zGo v 40)), (6, .int (xShRows v 40)), (0, .ref (ad 0)), (1, .int 6), (2, .int (nI xx)), (3, .int (nI yy)), (4, .ref oa), (5, .ref cb)]) (by show KI D A (lw ad oa cb ca (xEnd (xRem v 40)) (zFo v (xEnd (xRem v 40)) 0) (lK (xp v) (xt v) (xq v) (xk v) (xl v) (xm v) (xc v)) []) s.heap H locs; rw [zFo_0]; exact hI) (lv_sub hl [0, 1, 2, 3, 4, 5, 6, 7, 8, 9, 10] rfl) (fun H locs ls hI hl => ?_) (fun k hk H locs ls hI hl ih => ?_)
      · have hI : KI D A (lw ad oa cb ca (xEnd (xRem v 40)) (zFo v (xEnd (xRem v 40)) 40) (lK (xp v) (xt v) (xq v) (xk v) (xl v) (xm v) (xc v)) []) s.heap H locs := hI
        have hl : lv_has ls 12 [(10, .int (nI 40)), (9, .int 1), (8, .int (xRemN v 40)), (7, .int (zGo v 40)), (6, .int (xShRows v 40)), (0, .ref (ad 0)), (1, .int 6), (2, .int (nI xx)), (3, .int (nI yy)), (4, .ref oa), (5, .ref cb)] := hl
        have hI : KI D A (lw ad oa cb ca (xEnd (xRem v 40)) (lO (xEnd (xRem v 40))) (lK (xp v) (xt v) (xq v) (xk v) (xl v) (xm v) (xc v)) []) s.heap H locs := by rw [← zFo_40]; exact hI
        refine lv_iload cx.1 cx.2.1 dL_changes_235 (lv_at hl 0 rfl) ?_
        refine lv_bipush (v := 40) cx.1 cx.2.1 dL_changes_237 (by decide) ?_
        refine lv_icmp_ge (tgt := 264) cx.1 cx.2.1 dL_changes_239 (by decide) (fun _ => ?_) (fun h9 => absurd (by decide : (40 : Int32) ≤ nI 40) h9)
        refine lv_aload cx.1 cx.2.1 dL_changes_264 (lv_at hl 10 rfl) ?_
        refine lv_iconst (v := 0) cx.1 cx.2.1 dL_changes_266 (by decide) ?_
        refine lv_iload cx.1 cx.2.1 dL_changes_267 (lv_at hl 1 rfl) ?_
        refine lv_if_eq (tgt := 276) cx.1 cx.2.1 dL_changes_269 (by decide) (fun h9 => absurd h9 (by decide)) (fun _ => ?_)
        refine lv_iconst (v := 0) cx.1 cx.2.1 dL_changes_272 (by decide) ?_
        refine lv_goto (tgt := 280) cx.1 cx.2.1 dL_changes_273 (by decide) ?_
        refine ls_c0 cx hI dL_changes_280 (fun H locs hI => ?_)
        refine lv_iload cx.1 cx.2.1 dL_changes_281 (lv_at hl 2 rfl) ?_
        refine lv_iload cx.1 cx.2.1 dL_changes_283 (lv_at hl 1 rfl) ?_
        refine lv_if_eq (tgt := 293) cx.1 cx.2.1 dL_changes_285 (by decide) (fun h9 => absurd h9 (by decide)) (fun _ => ?_)
        refine lv_iload cx.1 cx.2.1 dL_changes_288 (lv_at hl 3 rfl) ?_
        refine lv_goto (tgt := 295) cx.1 cx.2.1 dL_changes_290 (by decide) ?_
        refine lv_icmp_ne (tgt := 323) cx.1 cx.2.1 dL_changes_295 (by decide) (fun h9 => absurd (fin_gone hcan) h9) (fun _ => ?_)
        refine lv_iload cx.1 cx.2.1 dL_changes_298 (lv_at hl 1 rfl) ?_
        refine lv_if_eq (tgt := 319) cx.1 cx.2.1 dL_changes_300 (by decide) (fun h9 => absurd h9 (by decide)) (fun _ => ?_)
        refine lv_aload_n cx.1 cx.2.1 dL_changes_303 rfl (lv_at hl 5 rfl) ?_
        refine lc_i 0 cx (hl.1.trans hml.symm) (kX0_rows l D ca ad (xEnd (xRem v 40))) hI wk_408 wk_405 wk_406 wk_407 ⟨rfl, by decide +kernel⟩ rfl ⟨rfl, rfl⟩ ⟨Nat.le_of_ble_eq_true rfl, Nat.le_of_ble_eq_true rfl⟩ (Nat.le_of_ble_eq_true rfl) dL_changes_304 ⟨Nat.le_of_ble_eq_true rfl, Nat.le_of_ble_eq_true rfl⟩ rfl (fun H locs hI => ?_)
        refine lv_iload cx.1 cx.2.1 dL_changes_307 (lv_at hl 4 rfl) ?_
        refine lv_icmp_ne (tgt := 323) cx.1 cx.2.1 dL_changes_309 (by decide) (fun h9 => absurd (fin_rows hX hcan) h9) (fun _ => ?_)
        refine lv_aload_n cx.1 cx.2.1 dL_changes_312 rfl (lv_at hl 5 rfl) ?_
        refine lc_i 0 cx (hl.1.trans hml.symm) (kX0_shadowRows l D ca ad (xEnd (xRem v 40))) hI wk_171 wk_168 wk_169 wk_170 ⟨rfl, by decide +kernel⟩ rfl ⟨rfl, rfl⟩ ⟨Nat.le_of_ble_eq_true rfl, Nat.le_of_ble_eq_true rfl⟩ (Nat.le_of_ble_eq_true rfl) dL_changes_313 ⟨Nat.le_of_ble_eq_true rfl, Nat.le_of_ble_eq_true rfl⟩ rfl (fun H locs hI => ?_)
        refine lv_if_ne (tgt := 323) cx.1 cx.2.1 dL_changes_316 (by decide) (fun h9 => absurd (rows_none (end_o _).2.2.2.2.2.2.2.2.2) h9) (fun _ => ?_)
        refine lv_iconst (v := 1) cx.1 cx.2.1 dL_changes_319 (by decide) ?_
        refine lv_goto (tgt := 324) cx.1 cx.2.1 dL_changes_320 (by decide) ?_
        exact ke_g (lw ad oa cb ca (xEnd (xRem v 40)) (lO (xEnd (xRem v 40))) (lK 0 (xt v) (xq v) (xk v) (xl v) (xm v) (xc v)) []) [] cx hr hlk hI (Nat.le_of_ble_eq_true rfl) (Nat.le_of_ble_eq_true rfl) dL_changes_324 rfl rfl ⟨_, ⟨0, m1, (zX_rem hX).mono (fun _ q => q) (by omega)⟩, lw_eq rfl (lC_fin (cut_c0 hX hcan))⟩
      · have hI : KI D A (lw ad oa cb ca (xEnd (xRem v 40)) (zFo v (xEnd (xRem v 40)) k) (lK (xp v) (xt v) (xq v) (xk v) (xl v) (xm v) (xc v)) []) s.heap H locs := hI
        have hl : lv_has ls 12 [(10, .int (nI k)), (9, .int 1), (8, .int (xRemN v 40)), (7, .int (zGo v 40)), (6, .int (xShRows v 40)), (0, .ref (ad 0)), (1, .int 6), (2, .int (nI xx)), (3, .int (nI yy)), (4, .ref oa), (5, .ref cb)] := hl
        refine lv_iload cx.1 cx.2.1 dL_changes_235 (lv_at hl 0 rfl) ?_
        refine lv_bipush (v := 40) cx.1 cx.2.1 dL_changes_237 (by decide) ?_
        refine lv_icmp_ge (tgt := 264) cx.1 cx.2.1 dL_changes_239 (by decide) (fun h9 => absurd h9 (nI_ge hk (by decide))) (fun _ => ?_)
        refine lv_iload cx.1 cx.2.1 dL_changes_242 (lv_at hl 1 rfl) ?_
        refine lv_if_eq (tgt := 264) cx.1 cx.2.1 dL_changes_244 (by decide) (fun h9 => absurd h9 (by decide)) (fun _ => ?_)
        refine lv_aload cx.1 cx.2.1 dL_changes_247 (lv_at hl 9 rfl) ?_
        refine lv_iload cx.1 cx.2.1 dL_changes_249 (lv_at hl 0 rfl) ?_
        refine lv_aload_n cx.1 cx.2.1 dL_changes_251 rfl (lv_at hl 5 rfl) ?_
        refine lv_iload cx.1 cx.2.1 dL_changes_252 (lv_at hl 0 rfl) ?_
        refine lc_i 1 cx (hl.1.trans hml.symm) (kS_row l D ca ad (xEnd (xRem v 40)) (nI k) (vp_in_nI hk (by decide))) hI wk_404 wk_401 wk_402 wk_403 ⟨rfl, by decide +kernel⟩ rfl ⟨rfl, rfl⟩ ⟨Nat.le_of_ble_eq_true rfl, Nat.le_of_ble_eq_true rfl⟩ (Nat.le_of_ble_eq_true rfl) dL_changes_254 ⟨Nat.le_of_ble_eq_true rfl, Nat.le_of_ble_eq_true rfl⟩ rfl (fun H locs hI => ?_)
        refine k_top (y := lO (xEnd (xRem v 40)) k) (row_lO (end_o _).2.2.2.2.2.2.2.1 hk) ?_
        refine ls_on cx hI hk dL_changes_257 (fun H locs hI => ?_)
        refine lv_iinc (v := nI (k + 1)) (lv' := [(10, .int (nI (k + 1))), (9, .int 1), (8, .int (xRemN v 40)), (7, .int (zGo v 40)), (6, .int (xShRows v 40)), (0, .ref (ad 0)), (1, .int 6), (2, .int (nI xx)), (3, .int (nI yy)), (4, .ref oa), (5, .ref cb)]) cx.1 cx.2.1 dL_changes_258 hl (k := 0) rfl (nI_1 k) (by decide) rfl (fun ls hl => ?_)
        refine lv_goto (tgt := 235) cx.1 cx.2.1 dL_changes_261 (by decide) ?_
        refine ih _ _ _ ?_ ?_
        · show KI D A (lw ad oa cb ca (xEnd (xRem v 40)) (zFo v (xEnd (xRem v 40)) (k + 1)) (lK (xp v) (xt v) (xq v) (xk v) (xl v) (xm v) (xc v)) []) s.heap _ _
          rw [zFo_step]
          exact hI
        · show lv_has _ _ [(10, .int (nI (k + 1))), (9, .int 1), (8, .int (xRemN v 40)), (7, .int (zGo v 40)), (6, .int (xShRows v 40)), (0, .ref (ad 0)), (1, .int 6), (2, .int (nI xx)), (3, .int (nI yy)), (4, .ref oa), (5, .ref cb)]
          exact lv_sub hl [0, 1, 2, 3, 4, 5, 6, 7, 8, 9, 10] rfl
    · refine lv_aload_n cx.1 cx.2.1 dL_changes_206 rfl (lv_at hl 3 rfl) ?_
      refine lv_bipush (v := 6) cx.1 cx.2.1 dL_changes_207 (by decide) ?_
      refine lv_iconst (v := 0) cx.1 cx.2.1 dL_changes_209 (by decide) ?_
      refine lv_iconst (v := 0) cx.1 cx.2.1 dL_changes_210 (by decide) ?_
      refine lv_iconst (v := 0) cx.1 cx.2.1 dL_changes_211 (by decide) ?_
      refine lc_h 5 cx hE (hl.1.trans hml.symm) (CA.f1 (kL_asks6 l D ca ad v 0 0 0 hlS) (fund_1 hcan)) hI wk_213 wk_211 wk_212 wk_0 ⟨by decide, by decide, by decide +kernel⟩ rfl ⟨rfl, rfl⟩ ⟨Nat.le_of_ble_eq_true rfl, Nat.le_of_ble_eq_true rfl⟩ (Nat.le_of_ble_eq_true rfl) dL_changes_212 ⟨Nat.le_of_ble_eq_true rfl, Nat.le_of_ble_eq_true rfl⟩ rfl (fun H locs hI => ?_)
      refine lv_istore (lv' := [(8, .int (-8)), (7, .int (zGo v 40)), (6, .int (xShRows v 40)), (0, .ref (ad 0)), (1, .int 6), (2, .int (nI xx)), (3, .int (nI yy)), (4, .ref oa), (5, .ref cb)]) cx.1 cx.2.1 dL_changes_215 hl (by decide) rfl (fun ls hl => ?_)
      refine lv_aload cx.1 cx.2.1 dL_changes_217 (lv_at hl 8 rfl) ?_
      refine lv_iconst (v := 0) cx.1 cx.2.1 dL_changes_219 (by decide) ?_
      refine lr_c cx hI (vp_in_nI (n := 0) (by decide) (by decide)) dL_changes_220 ?_
      refine k_top (y := xp v) rfl ?_
      refine lv_iconst (v := 2) cx.1 cx.2.1 dL_changes_221 (by decide) ?_
      refine lv_icmp_ne (tgt := 229) cx.1 cx.2.1 dL_changes_222 (by decide) (fun _ => ?_) (fun h9 => absurd h9 hcan)
      refine lv_iconst (v := 0) cx.1 cx.2.1 dL_changes_229 (by decide) ?_
      refine lv_istore (lv' := [(9, .int 0), (8, .int (-8)), (7, .int (zGo v 40)), (6, .int (xShRows v 40)), (0, .ref (ad 0)), (1, .int 6), (2, .int (nI xx)), (3, .int (nI yy)), (4, .ref oa), (5, .ref cb)]) cx.1 cx.2.1 dL_changes_230 hl (by decide) rfl (fun ls hl => ?_)
      refine lv_iconst (v := 0) cx.1 cx.2.1 dL_changes_232 (by decide) ?_
      refine lv_istore (lv' := [(10, .int 0), (9, .int 0), (8, .int (-8)), (7, .int (zGo v 40)), (6, .int (xShRows v 40)), (0, .ref (ad 0)), (1, .int 6), (2, .int (nI xx)), (3, .int (nI yy)), (4, .ref oa), (5, .ref cb)]) cx.1 cx.2.1 dL_changes_233 hl (by decide) rfl (fun ls hl => ?_)
      refine lv_iload cx.1 cx.2.1 dL_changes_235 (lv_at hl 0 rfl) ?_
      refine lv_bipush (v := 40) cx.1 cx.2.1 dL_changes_237 (by decide) ?_
      refine lv_icmp_ge (tgt := 264) cx.1 cx.2.1 dL_changes_239 (by decide) (fun h9 => absurd h9 (by decide)) (fun _ => ?_)
      refine lv_iload cx.1 cx.2.1 dL_changes_242 (lv_at hl 1 rfl) ?_
      refine lv_if_eq (tgt := 264) cx.1 cx.2.1 dL_changes_244 (by decide) (fun _ => ?_) (fun h9 => absurd (by decide) h9)
      refine lv_aload cx.1 cx.2.1 dL_changes_264 (lv_at hl 10 rfl) ?_
      refine lv_iconst (v := 0) cx.1 cx.2.1 dL_changes_266 (by decide) ?_
      refine lv_iload cx.1 cx.2.1 dL_changes_267 (lv_at hl 1 rfl) ?_
      refine lv_if_eq (tgt := 276) cx.1 cx.2.1 dL_changes_269 (by decide) (fun _ => ?_) (fun h9 => absurd (by decide) h9)
      refine lv_aload cx.1 cx.2.1 dL_changes_276 (lv_at hl 10 rfl) ?_
      refine lv_iconst (v := 0) cx.1 cx.2.1 dL_changes_278 (by decide) ?_
      refine lr_c cx hI (vp_in_nI (n := 0) (by decide) (by decide)) dL_changes_279 ?_
      refine k_top (y := xp v) rfl ?_
      refine ls_c0 cx hI dL_changes_280 (fun H locs hI => ?_)
      refine lv_iload cx.1 cx.2.1 dL_changes_281 (lv_at hl 2 rfl) ?_
      refine lv_iload cx.1 cx.2.1 dL_changes_283 (lv_at hl 1 rfl) ?_
      refine lv_if_eq (tgt := 293) cx.1 cx.2.1 dL_changes_285 (by decide) (fun _ => ?_) (fun h9 => absurd (by decide) h9)
      refine lv_bipush (v := (-8)) cx.1 cx.2.1 dL_changes_293 (by decide) ?_
      refine lv_icmp_ne (tgt := 323) cx.1 cx.2.1 dL_changes_295 (by decide) (fun h9 => absurd (by decide) h9) (fun _ => ?_)
      refine lv_iload cx.1 cx.2.1 dL_changes_298 (lv_at hl 1 rfl) ?_
      refine lv_if_eq (tgt := 319) cx.1 cx.2.1 dL_changes_300 (by decide) (fun _ => ?_) (fun h9 => absurd (by decide) h9)
      refine lv_iconst (v := 1) cx.1 cx.2.1 dL_changes_319 (by decide) ?_
      refine lv_goto (tgt := 324) cx.1 cx.2.1 dL_changes_320 (by decide) ?_
      exact ke_g (lw ad oa cb ca v (lO v) (lK (xp v) (xt v) (xq v) (xk v) (xl v) (xm v) (xc v)) []) [] cx hr hlk hI (Nat.le_of_ble_eq_true rfl) (Nat.le_of_ble_eq_true rfl) dL_changes_324 rfl rfl ⟨v, ⟨c1, m1, hX.mono (fun _ q => q) (by omega)⟩, lw_eq rfl rfl⟩
  · have hI : KI D A (lw ad oa cb ca v (lO v) (lK (xp v) (xt v) (xq v) (xk v) (xl v) (xm v) (xc v)) []) s.heap H locs := hI
    have hl : lv_has ls 12 [(8, .int (nI k)), (7, .int (zGo v k)), (6, .int (xShRows v 40)), (0, .ref (ad 0)), (1, .int 6), (2, .int (nI xx)), (3, .int (nI yy)), (4, .ref oa), (5, .ref cb)] := hl
    refine lv_iload cx.1 cx.2.1 dL_changes_12 (lv_at hl 0 rfl) ?_
    refine lv_bipush (v := 40) cx.1 cx.2.1 dL_changes_14 (by decide) ?_
    refine lv_icmp_ge (tgt := 56) cx.1 cx.2.1 dL_changes_16 (by decide) (fun h9 => absurd h9 (nI_ge hk (by decide))) (fun _ => ?_)
    refine lv_iload cx.1 cx.2.1 dL_changes_19 (lv_at hl 1 rfl) ?_
    refine lv_aload cx.1 cx.2.1 dL_changes_21 (lv_at hl 7 rfl) ?_
    refine lv_iload cx.1 cx.2.1 dL_changes_23 (lv_at hl 0 rfl) ?_
    refine lr_on cx hI hk dL_changes_25 ?_
    refine k_join (D := D) (A := A) 47 (lw ad oa cb ca v (lO v) (lK (xp v) (xt v) (xq v) (xk v) (xl v) (xm v) (xc v)) []) [.int (b2i (xOld v (nI k) && !xSeen v (nI k))), .int (zGo v k)] (fun H locs hI => ?_) (fun hj47 => ?_)
    · refine lv_iadd cx.1 cx.2.1 dL_changes_47 ?_
      refine lv_istore (lv' := [(7, .int ((zGo v k) + (b2i (xOld v (nI k) && !xSeen v (nI k))))), (8, .int (nI k)), (6, .int (xShRows v 40)), (0, .ref (ad 0)), (1, .int 6), (2, .int (nI xx)), (3, .int (nI yy)), (4, .ref oa), (5, .ref cb)]) cx.1 cx.2.1 dL_changes_48 hl (by decide) rfl (fun ls hl => ?_)
      refine lv_iinc (v := nI (k + 1)) (lv' := [(8, .int (nI (k + 1))), (7, .int ((zGo v k) + (b2i (xOld v (nI k) && !xSeen v (nI k))))), (6, .int (xShRows v 40)), (0, .ref (ad 0)), (1, .int 6), (2, .int (nI xx)), (3, .int (nI yy)), (4, .ref oa), (5, .ref cb)]) cx.1 cx.2.1 dL_changes_50 hl (k := 1) rfl (nI_1 k) (by decide) rfl (fun ls hl => ?_)
      refine lv_goto (tgt := 12) cx.1 cx.2.1 dL_changes_53 (by decide) ?_
      refine ih _ _ _ ?_ ?_
      · show KI D A (lw ad oa cb ca v (lO v) (lK (xp v) (xt v) (xq v) (xk v) (xl v) (xm v) (xc v)) []) s.heap _ _
        exact hI
      · show lv_has _ _ [(8, .int (nI (k + 1))), (7, .int (zGo v (k + 1))), (6, .int (xShRows v 40)), (0, .ref (ad 0)), (1, .int 6), (2, .int (nI xx)), (3, .int (nI yy)), (4, .ref oa), (5, .ref cb)]
        exact lv_sub hl [0, 1, 2, 3, 4, 5, 6, 7, 8] rfl
    ·
      refine lv_if_lt (tgt := 46) cx.1 cx.2.1 dL_changes_26 (by decide) (fun c_5 => ?_) (fun c_5 => ?_)
      · refine lv_iconst (v := 0) cx.1 cx.2.1 dL_changes_46 (by decide) ?_
        exact k_top (by first | exact go_a (lO_lt hk (hA k hk) c_5) | exact go_b c_5) (hj47 _ _ hI)
      · refine lv_aload_n cx.1 cx.2.1 dL_changes_29 rfl (lv_at hl 3 rfl) ?_
        refine lv_aload cx.1 cx.2.1 dL_changes_30 (lv_at hl 7 rfl) ?_
        refine lv_aload cx.1 cx.2.1 dL_changes_32 (lv_at hl 8 rfl) ?_
        refine lv_iload cx.1 cx.2.1 dL_changes_34 (lv_at hl 0 rfl) ?_
        refine lc_w 4 cx (hl.1.trans hml.symm) (kL_isSeen l D ca ad oa cb v (lO v) (xp v) (xt v) (xq v) (xk v) (xl v) (xm v) (xc v) hk (hA k hk) (hZ k hk) rfl rfl) hI wk_82 wk_80 wk_81 wk_0 ⟨by decide, by decide, by decide +kernel⟩ rfl ⟨rfl, rfl⟩ ⟨Nat.le_of_ble_eq_true rfl, Nat.le_of_ble_eq_true rfl⟩ (Nat.le_of_ble_eq_true rfl) dL_changes_36 ⟨Nat.le_of_ble_eq_true rfl, Nat.le_of_ble_eq_true rfl⟩ rfl (fun H locs hI => ?_)
        refine kb_ne (tgt := 46) cx dL_changes_39 (by decide) (fun c_6 => ?_) (fun c_6 => ?_)
        · refine lv_iconst (v := 0) cx.1 cx.2.1 dL_changes_46 (by decide) ?_
          exact k_top (by first | exact go_a (lO_lt hk (hA k hk) c_6) | exact go_b c_6) (hj47 _ _ hI)
        · refine lv_iconst (v := 1) cx.1 cx.2.1 dL_changes_42 (by decide) ?_
          refine lv_goto (tgt := 47) cx.1 cx.2.1 dL_changes_43 (by decide) ?_
          exact k_top (go_c (lO_ge hk (hA k hk) c_5) c_6) (hj47 _ _ hI)
set_option maxHeartbeats 4000000 in
set_option maxRecDepth 100000 in
theorem kL_changes7 (l : Launch) (D : va_G) (ca : Nat → ClassId) (ad : Nat → Nat) (oa cb : Nat) {v : XS} {n xx yy : Nat} (h : zI n v) (hn : n + 2 ≤ 1000) (hXx : xx < 2 ^ 30) (hY : yy < 2 ^ 30) (hlS : l.stackTraces = false) : CG l yL_changes cL_changes 12 (some .boolean) { frames := 9, cells := 1, slots := 6, locals := 201 } D ca (lw ad oa cb ca v (lO v) (lC v) []) [.ref (ad 0), .int 7, .int (nI xx), .int (nI yy), .ref oa, .ref cb] (some (.int 1)) (LW (n + 2) ad oa cb ca) 1 6 := by
  refine CG.of (by decide) (Nat.le_of_ble_eq_true rfl) ?_
  intro p e s m below meth c0 A ls cx hml hr hlk hE hI hl
  have hl : lv_has ls 12 [(0, .ref (ad 0)), (1, .int 7), (2, .int (nI xx)), (3, .int (nI yy)), (4, .ref oa), (5, .ref cb)] := hl
  obtain ⟨c1, m1, hX⟩ := h
  have hA : ∀ j, j < 40 → zA v j := fun j hj => (hX.1.1 j hj).1
  have hZ : ∀ j, j < 40 → zS v j := fun j hj => (hX.1.1 j hj).2
  have hn1 := hX.2.1.1
  have hI : KI D A (lw ad oa cb ca v (lO v) (lK (xp v) (xt v) (xq v) (xk v) (xl v) (xm v) (xc v)) []) s.heap s.heap [] := hI
  refine lv_aload_n cx.1 cx.2.1 dL_changes_0 rfl (lv_at hl 0 rfl) ?_
  refine lc_i 0 cx (hl.1.trans hml.symm) (kX0_shadowRows l D ca ad v) hI wk_171 wk_168 wk_169 wk_170 ⟨rfl, by decide +kernel⟩ rfl ⟨rfl, rfl⟩ ⟨Nat.le_of_ble_eq_true rfl, Nat.le_of_ble_eq_true rfl⟩ (Nat.le_of_ble_eq_true rfl) dL_changes_1 ⟨Nat.le_of_ble_eq_true rfl, Nat.le_of_ble_eq_true rfl⟩ rfl (fun H locs hI => ?_)
  refine lv_istore (lv' := [(6, .int (xShRows v 40)), (0, .ref (ad 0)), (1, .int 7), (2, .int (nI xx)), (3, .int (nI yy)), (4, .ref oa), (5, .ref cb)]) cx.1 cx.2.1 dL_changes_4 hl (by decide) rfl (fun ls hl => ?_)
  refine lv_iconst (v := 0) cx.1 cx.2.1 dL_changes_6 (by decide) ?_
  refine lv_istore (lv' := [(7, .int 0), (6, .int (xShRows v 40)), (0, .ref (ad 0)), (1, .int 7), (2, .int (nI xx)), (3, .int (nI yy)), (4, .ref oa), (5, .ref cb)]) cx.1 cx.2.1 dL_changes_7 hl (by decide) rfl (fun ls hl => ?_)
  refine lv_iconst (v := 0) cx.1 cx.2.1 dL_changes_9 (by decide) ?_
  refine lv_istore (lv' := [(8, .int 0), (7, .int 0), (6, .int (xShRows v 40)), (0, .ref (ad 0)), (1, .int 7), (2, .int (nI xx)), (3, .int (nI yy)), (4, .ref oa), (5, .ref cb)]) cx.1 cx.2.1 dL_changes_10 hl (by decide) rfl (fun ls hl => ?_)
  refine k_loop 40 (fun k => (lw ad oa cb ca v (lO v) (lK (xp v) (xt v) (xq v) (xk v) (xl v) (xm v) (xc v)) [])) (fun k => [(8, .int (nI k)), (7, .int (zGo v k)), (6, .int (xShRows v 40)), (0, .ref (ad 0)), (1, .int 7), (2, .int (nI xx)), (3, .int (nI yy)), (4, .ref oa), (5, .ref cb)]) hI (lv_sub hl [0, 1, 2, 3, 4, 5, 6, 7, 8] rfl) (fun H locs ls hI hl => ?_) (fun k hk H locs ls hI hl ih => ?_)
  · have hI : KI D A (lw ad oa cb ca v (lO v) (lK (xp v) (xt v) (xq v) (xk v) (xl v) (xm v) (xc v)) []) s.heap H locs := hI
    have hl : lv_has ls 12 [(8, .int (nI 40)), (7, .int (zGo v 40)), (6, .int (xShRows v 40)), (0, .ref (ad 0)), (1, .int 7), (2, .int (nI xx)), (3, .int (nI yy)), (4, .ref oa), (5, .ref cb)] := hl
    refine lv_iload cx.1 cx.2.1 dL_changes_12 (lv_at hl 0 rfl) ?_
    refine lv_bipush (v := 40) cx.1 cx.2.1 dL_changes_14 (by decide) ?_
    refine lv_icmp_ge (tgt := 56) cx.1 cx.2.1 dL_changes_16 (by decide) (fun _ => ?_) (fun h9 => absurd (by decide : (40 : Int32) ≤ nI 40) h9)
    refine lv_iload_n cx.1 cx.2.1 dL_changes_56 rfl (lv_at hl 4 rfl) ?_
    refine lv_iconst (v := 5) cx.1 cx.2.1 dL_changes_57 (by decide) ?_
    refine lv_icmp_ne (tgt := 200) cx.1 cx.2.1 dL_changes_58 (by decide) (fun _ => ?_) (fun h9 => absurd h9 (by decide))
    refine lv_iload_n cx.1 cx.2.1 dL_changes_200 rfl (lv_at hl 4 rfl) ?_
    refine lv_bipush (v := 6) cx.1 cx.2.1 dL_changes_201 (by decide) ?_
    refine lv_icmp_ne (tgt := 325) cx.1 cx.2.1 dL_changes_203 (by decide) (fun _ => ?_) (fun h9 => absurd h9 (by decide))
    refine lv_iload_n cx.1 cx.2.1 dL_changes_325 rfl (lv_at hl 4 rfl) ?_
    refine lv_bipush (v := 7) cx.1 cx.2.1 dL_changes_326 (by decide) ?_
    refine lv_icmp_ne (tgt := 416) cx.1 cx.2.1 dL_changes_328 (by decide) (fun h9 => absurd (by decide) h9) (fun _ => ?_)
    rcases Decidable.em (xp v = 1) with hcan | hcan
    · refine lv_aload_n cx.1 cx.2.1 dL_changes_331 rfl (lv_at hl 3 rfl) ?_
      refine lv_bipush (v := 7) cx.1 cx.2.1 dL_changes_332 (by decide) ?_
      refine lv_iconst (v := 0) cx.1 cx.2.1 dL_changes_334 (by decide) ?_
      refine lv_iconst (v := 0) cx.1 cx.2.1 dL_changes_335 (by decide) ?_
      refine lv_iconst (v := 0) cx.1 cx.2.1 dL_changes_336 (by decide) ?_
      refine lc_h 5 cx hE (hl.1.trans hml.symm) (CA.ok (kL_asks7 l D ca ad v 0 0 0 hlS) (fgiv_0 hcan)) hI wk_213 wk_211 wk_212 wk_0 ⟨by decide, by decide, by decide +kernel⟩ rfl ⟨rfl, rfl⟩ ⟨Nat.le_of_ble_eq_true rfl, Nat.le_of_ble_eq_true rfl⟩ (Nat.le_of_ble_eq_true rfl) dL_changes_337 ⟨Nat.le_of_ble_eq_true rfl, Nat.le_of_ble_eq_true rfl⟩ rfl (fun H locs hI => ?_)
      refine lv_istore (lv' := [(8, .int (xShRows v 40)), (7, .int (zGo v 40)), (6, .int (xShRows v 40)), (0, .ref (ad 0)), (1, .int 7), (2, .int (nI xx)), (3, .int (nI yy)), (4, .ref oa), (5, .ref cb)]) cx.1 cx.2.1 dL_changes_340 hl (by decide) rfl (fun ls hl => ?_)
      refine lv_aload cx.1 cx.2.1 dL_changes_342 (lv_at hl 8 rfl) ?_
      refine lv_iconst (v := 0) cx.1 cx.2.1 dL_changes_344 (by decide) ?_
      refine lr_c cx hI (vp_in_nI (n := 0) (by decide) (by decide)) dL_changes_345 ?_
      refine k_top (y := xp v) rfl ?_
      refine lv_iconst (v := 1) cx.1 cx.2.1 dL_changes_346 (by decide) ?_
      refine lv_icmp_ne (tgt := 354) cx.1 cx.2.1 dL_changes_347 (by decide) (fun h9 => absurd hcan h9) (fun _ => ?_)
      refine lv_iconst (v := 1) cx.1 cx.2.1 dL_changes_350 (by decide) ?_
      refine lv_goto (tgt := 355) cx.1 cx.2.1 dL_changes_351 (by decide) ?_
      refine lv_istore (lv' := [(9, .int 1), (8, .int (xShRows v 40)), (7, .int (zGo v 40)), (6, .int (xShRows v 40)), (0, .ref (ad 0)), (1, .int 7), (2, .int (nI xx)), (3, .int (nI yy)), (4, .ref oa), (5, .ref cb)]) cx.1 cx.2.1 dL_changes_355 hl (by decide) rfl (fun ls hl => ?_)
      refine lv_aload cx.1 cx.2.1 dL_changes_357 (lv_at hl 9 rfl) ?_
      refine lv_iconst (v := 0) cx.1 cx.2.1 dL_changes_359 (by decide) ?_
      refine lv_iload cx.1 cx.2.1 dL_changes_360 (lv_at hl 0 rfl) ?_
      refine lv_if_eq (tgt := 369) cx.1 cx.2.1 dL_changes_362 (by decide) (fun h9 => absurd h9 (by decide)) (fun _ => ?_)
      refine lv_iconst (v := 0) cx.1 cx.2.1 dL_changes_365 (by decide) ?_
      refine lv_goto (tgt := 373) cx.1 cx.2.1 dL_changes_366 (by decide) ?_
      refine ls_c0 cx hI dL_changes_373 (fun H locs hI => ?_)
      refine lv_aload cx.1 cx.2.1 dL_changes_374 (lv_at hl 9 rfl) ?_
      refine lv_bipush (v := 6) cx.1 cx.2.1 dL_changes_376 (by decide) ?_
      refine lv_iload cx.1 cx.2.1 dL_changes_378 (lv_at hl 0 rfl) ?_
      refine lv_if_eq (tgt := 387) cx.1 cx.2.1 dL_changes_380 (by decide) (fun h9 => absurd h9 (by decide)) (fun _ => ?_)
      refine lv_iconst (v := 0) cx.1 cx.2.1 dL_changes_383 (by decide) ?_
      refine lv_goto (tgt := 392) cx.1 cx.2.1 dL_changes_384 (by decide) ?_
      refine ls_c6 cx hI dL_changes_392 (fun H locs hI => ?_)
      refine lv_iload cx.1 cx.2.1 dL_changes_393 (lv_at hl 1 rfl) ?_
      refine lv_iload cx.1 cx.2.1 dL_changes_395 (lv_at hl 0 rfl) ?_
      refine lv_if_eq (tgt := 405) cx.1 cx.2.1 dL_changes_397 (by decide) (fun h9 => absurd h9 (by decide)) (fun _ => ?_)
      refine lv_iload cx.1 cx.2.1 dL_changes_400 (lv_at hl 3 rfl) ?_
      refine lv_goto (tgt := 407) cx.1 cx.2.1 dL_changes_402 (by decide) ?_
      refine lv_icmp_ne (tgt := 414) cx.1 cx.2.1 dL_changes_407 (by decide) (fun h9 => absurd rfl h9) (fun _ => ?_)
      refine lv_iconst (v := 1) cx.1 cx.2.1 dL_changes_410 (by decide) ?_
      refine lv_goto (tgt := 415) cx.1 cx.2.1 dL_changes_411 (by decide) ?_
      exact ke_g (lw ad oa cb ca (xEnd v) (lO v) (lK 0 (xt v) (xq v) (xk v) (xl v) (xm v) 0) []) [] cx hr hlk hI (Nat.le_of_ble_eq_true rfl) (Nat.le_of_ble_eq_true rfl) dL_changes_415 rfl rfl ⟨_, ⟨0, m1, zX_end (n := n + 2) hX.1 hX.2.2.1⟩, lw_eq (lO_end v) (lC_end v rfl)⟩
    · refine lv_aload_n cx.1 cx.2.1 dL_changes_331 rfl (lv_at hl 3 rfl) ?_
      refine lv_bipush (v := 7) cx.1 cx.2.1 dL_changes_332 (by decide) ?_
      refine lv_iconst (v := 0) cx.1 cx.2.1 dL_changes_334 (by decide) ?_
      refine lv_iconst (v := 0) cx.1 cx.2.1 dL_changes_335 (by decide) ?_
      refine lv_iconst (v := 0) cx.1 cx.2.1 dL_changes_336 (by decide) ?_
      refine lc_h 5 cx hE (hl.1.trans hml.symm) (CA.f1 (kL_asks7 l D ca ad v 0 0 0 hlS) (fgiv_1 hcan)) hI wk_213 wk_211 wk_212 wk_0 ⟨by decide, by decide, by decide +kernel⟩ rfl ⟨rfl, rfl⟩ ⟨Nat.le_of_ble_eq_true rfl, Nat.le_of_ble_eq_true rfl⟩ (Nat.le_of_ble_eq_true rfl) dL_changes_337 ⟨Nat.le_of_ble_eq_true rfl, Nat.le_of_ble_eq_true rfl⟩ rfl (fun H locs hI => ?_)
      refine lv_istore (lv' := [(8, .int (-8)), (7, .int (zGo v 40)), (6, .int (xShRows v 40)), (0, .ref (ad 0)), (1, .int 7), (2, .int (nI xx)), (3, .int (nI yy)), (4, .ref oa), (5, .ref cb)]) cx.1 cx.2.1 dL_changes_340 hl (by decide) rfl (fun ls hl => ?_)
      refine lv_aload cx.1 cx.2.1 dL_changes_342 (lv_at hl 8 rfl) ?_
      refine lv_iconst (v := 0) cx.1 cx.2.1 dL_changes_344 (by decide) ?_
      refine lr_c cx hI (vp_in_nI (n := 0) (by decide) (by decide)) dL_changes_345 ?_
      refine k_top (y := xp v) rfl ?_
      refine lv_iconst (v := 1) cx.1 cx.2.1 dL_changes_346 (by decide) ?_
      refine lv_icmp_ne (tgt := 354) cx.1 cx.2.1 dL_changes_347 (by decide) (fun _ => ?_) (fun h9 => absurd h9 hcan)
      refine lv_iconst (v := 0) cx.1 cx.2.1 dL_changes_354 (by decide) ?_
      refine lv_istore (lv' := [(9, .int 0), (8, .int (-8)), (7, .int (zGo v 40)), (6, .int (xShRows v 40)), (0, .ref (ad 0)), (1, .int 7), (2, .int (nI xx)), (3, .int (nI yy)), (4, .ref oa), (5, .ref cb)]) cx.1 cx.2.1 dL_changes_355 hl (by decide) rfl (fun ls hl => ?_)
      refine lv_aload cx.1 cx.2.1 dL_changes_357 (lv_at hl 9 rfl) ?_
      refine lv_iconst (v := 0) cx.1 cx.2.1 dL_changes_359 (by decide) ?_
      refine lv_iload cx.1 cx.2.1 dL_changes_360 (lv_at hl 0 rfl) ?_
      refine lv_if_eq (tgt := 369) cx.1 cx.2.1 dL_changes_362 (by decide) (fun _ => ?_) (fun h9 => absurd (by decide) h9)
      refine lv_aload cx.1 cx.2.1 dL_changes_369 (lv_at hl 9 rfl) ?_
      refine lv_iconst (v := 0) cx.1 cx.2.1 dL_changes_371 (by decide) ?_
      refine lr_c cx hI (vp_in_nI (n := 0) (by decide) (by decide)) dL_changes_372 ?_
      refine k_top (y := xp v) rfl ?_
      refine ls_c0 cx hI dL_changes_373 (fun H locs hI => ?_)
      refine lv_aload cx.1 cx.2.1 dL_changes_374 (lv_at hl 9 rfl) ?_
      refine lv_bipush (v := 6) cx.1 cx.2.1 dL_changes_376 (by decide) ?_
      refine lv_iload cx.1 cx.2.1 dL_changes_378 (lv_at hl 0 rfl) ?_
      refine lv_if_eq (tgt := 387) cx.1 cx.2.1 dL_changes_380 (by decide) (fun _ => ?_) (fun h9 => absurd (by decide) h9)
      refine lv_aload cx.1 cx.2.1 dL_changes_387 (lv_at hl 9 rfl) ?_
      refine lv_bipush (v := 6) cx.1 cx.2.1 dL_changes_389 (by decide) ?_
      refine lr_c cx hI (vp_in_nI (n := 6) (by decide) (by decide)) dL_changes_391 ?_
      refine k_top (y := xc v) rfl ?_
      refine ls_c6 cx hI dL_changes_392 (fun H locs hI => ?_)
      refine lv_iload cx.1 cx.2.1 dL_changes_393 (lv_at hl 1 rfl) ?_
      refine lv_iload cx.1 cx.2.1 dL_changes_395 (lv_at hl 0 rfl) ?_
      refine lv_if_eq (tgt := 405) cx.1 cx.2.1 dL_changes_397 (by decide) (fun _ => ?_) (fun h9 => absurd (by decide) h9)
      refine lv_bipush (v := (-8)) cx.1 cx.2.1 dL_changes_405 (by decide) ?_
      refine lv_icmp_ne (tgt := 414) cx.1 cx.2.1 dL_changes_407 (by decide) (fun h9 => absurd (by decide) h9) (fun _ => ?_)
      refine lv_iconst (v := 1) cx.1 cx.2.1 dL_changes_410 (by decide) ?_
      refine lv_goto (tgt := 415) cx.1 cx.2.1 dL_changes_411 (by decide) ?_
      exact ke_g (lw ad oa cb ca v (lO v) (lK (xp v) (xt v) (xq v) (xk v) (xl v) (xm v) (xc v)) []) [] cx hr hlk hI (Nat.le_of_ble_eq_true rfl) (Nat.le_of_ble_eq_true rfl) dL_changes_415 rfl rfl ⟨v, ⟨c1, m1, hX.mono (fun _ q => q) (by omega)⟩, lw_eq rfl rfl⟩
  · have hI : KI D A (lw ad oa cb ca v (lO v) (lK (xp v) (xt v) (xq v) (xk v) (xl v) (xm v) (xc v)) []) s.heap H locs := hI
    have hl : lv_has ls 12 [(8, .int (nI k)), (7, .int (zGo v k)), (6, .int (xShRows v 40)), (0, .ref (ad 0)), (1, .int 7), (2, .int (nI xx)), (3, .int (nI yy)), (4, .ref oa), (5, .ref cb)] := hl
    refine lv_iload cx.1 cx.2.1 dL_changes_12 (lv_at hl 0 rfl) ?_
    refine lv_bipush (v := 40) cx.1 cx.2.1 dL_changes_14 (by decide) ?_
    refine lv_icmp_ge (tgt := 56) cx.1 cx.2.1 dL_changes_16 (by decide) (fun h9 => absurd h9 (nI_ge hk (by decide))) (fun _ => ?_)
    refine lv_iload cx.1 cx.2.1 dL_changes_19 (lv_at hl 1 rfl) ?_
    refine lv_aload cx.1 cx.2.1 dL_changes_21 (lv_at hl 7 rfl) ?_
    refine lv_iload cx.1 cx.2.1 dL_changes_23 (lv_at hl 0 rfl) ?_
    refine lr_on cx hI hk dL_changes_25 ?_
    refine k_join (D := D) (A := A) 47 (lw ad oa cb ca v (lO v) (lK (xp v) (xt v) (xq v) (xk v) (xl v) (xm v) (xc v)) []) [.int (b2i (xOld v (nI k) && !xSeen v (nI k))), .int (zGo v k)] (fun H locs hI => ?_) (fun hj47 => ?_)
    · refine lv_iadd cx.1 cx.2.1 dL_changes_47 ?_
      refine lv_istore (lv' := [(7, .int ((zGo v k) + (b2i (xOld v (nI k) && !xSeen v (nI k))))), (8, .int (nI k)), (6, .int (xShRows v 40)), (0, .ref (ad 0)), (1, .int 7), (2, .int (nI xx)), (3, .int (nI yy)), (4, .ref oa), (5, .ref cb)]) cx.1 cx.2.1 dL_changes_48 hl (by decide) rfl (fun ls hl => ?_)
      refine lv_iinc (v := nI (k + 1)) (lv' := [(8, .int (nI (k + 1))), (7, .int ((zGo v k) + (b2i (xOld v (nI k) && !xSeen v (nI k))))), (6, .int (xShRows v 40)), (0, .ref (ad 0)), (1, .int 7), (2, .int (nI xx)), (3, .int (nI yy)), (4, .ref oa), (5, .ref cb)]) cx.1 cx.2.1 dL_changes_50 hl (k := 1) rfl (nI_1 k) (by decide) rfl (fun ls hl => ?_)
      refine lv_goto (tgt := 12) cx.1 cx.2.1 dL_changes_53 (by decide) ?_
      refine ih _ _ _ ?_ ?_
      · show KI D A (lw ad oa cb ca v (lO v) (lK (xp v) (xt v) (xq v) (xk v) (xl v) (xm v) (xc v)) []) s.heap _ _
        exact hI
      · show lv_has _ _ [(8, .int (nI (k + 1))), (7, .int (zGo v (k + 1))), (6, .int (xShRows v 40)), (0, .ref (ad 0)), (1, .int 7), (2, .int (nI xx)), (3, .int (nI yy)), (4, .ref oa), (5, .ref cb)]
        exact lv_sub hl [0, 1, 2, 3, 4, 5, 6, 7, 8] rfl
    ·
      refine lv_if_lt (tgt := 46) cx.1 cx.2.1 dL_changes_26 (by decide) (fun c_3 => ?_) (fun c_3 => ?_)
      · refine lv_iconst (v := 0) cx.1 cx.2.1 dL_changes_46 (by decide) ?_
        exact k_top (by first | exact go_a (lO_lt hk (hA k hk) c_3) | exact go_b c_3) (hj47 _ _ hI)
      · refine lv_aload_n cx.1 cx.2.1 dL_changes_29 rfl (lv_at hl 3 rfl) ?_
        refine lv_aload cx.1 cx.2.1 dL_changes_30 (lv_at hl 7 rfl) ?_
        refine lv_aload cx.1 cx.2.1 dL_changes_32 (lv_at hl 8 rfl) ?_
        refine lv_iload cx.1 cx.2.1 dL_changes_34 (lv_at hl 0 rfl) ?_
        refine lc_w 4 cx (hl.1.trans hml.symm) (kL_isSeen l D ca ad oa cb v (lO v) (xp v) (xt v) (xq v) (xk v) (xl v) (xm v) (xc v) hk (hA k hk) (hZ k hk) rfl rfl) hI wk_82 wk_80 wk_81 wk_0 ⟨by decide, by decide, by decide +kernel⟩ rfl ⟨rfl, rfl⟩ ⟨Nat.le_of_ble_eq_true rfl, Nat.le_of_ble_eq_true rfl⟩ (Nat.le_of_ble_eq_true rfl) dL_changes_36 ⟨Nat.le_of_ble_eq_true rfl, Nat.le_of_ble_eq_true rfl⟩ rfl (fun H locs hI => ?_)
        refine kb_ne (tgt := 46) cx dL_changes_39 (by decide) (fun c_4 => ?_) (fun c_4 => ?_)
        · refine lv_iconst (v := 0) cx.1 cx.2.1 dL_changes_46 (by decide) ?_
          exact k_top (by first | exact go_a (lO_lt hk (hA k hk) c_4) | exact go_b c_4) (hj47 _ _ hI)
        · refine lv_iconst (v := 1) cx.1 cx.2.1 dL_changes_42 (by decide) ?_
          refine lv_goto (tgt := 47) cx.1 cx.2.1 dL_changes_43 (by decide) ?_
          exact k_top (go_c (lO_ge hk (hA k hk) c_3) c_4) (hj47 _ _ hI)
set_option maxHeartbeats 4000000 in
set_option maxRecDepth 100000 in
theorem kL_changes8 (l : Launch) (D : va_G) (ca : Nat → ClassId) (ad : Nat → Nat) (oa cb : Nat) {v : XS} {n xx yy : Nat} (h : zI n v) (hn : n + 2 ≤ 1000) (hXx : xx < 2 ^ 30) (hY : yy < 2 ^ 30) (hlS : l.stackTraces = false) : CG l yL_changes cL_changes 12 (some .boolean) { frames := 9, cells := 1, slots := 6, locals := 201 } D ca (lw ad oa cb ca v (lO v) (lC v) []) [.ref (ad 0), .int 8, .int (nI xx), .int (nI yy), .ref oa, .ref cb] (some (.int 1)) (LW (n + 2) ad oa cb ca) 1 6 := by
  refine CG.of (by decide) (Nat.le_of_ble_eq_true rfl) ?_
  intro p e s m below meth c0 A ls cx hml hr hlk hE hI hl
  have hl : lv_has ls 12 [(0, .ref (ad 0)), (1, .int 8), (2, .int (nI xx)), (3, .int (nI yy)), (4, .ref oa), (5, .ref cb)] := hl
  obtain ⟨c1, m1, hX⟩ := h
  have hA : ∀ j, j < 40 → zA v j := fun j hj => (hX.1.1 j hj).1
  have hZ : ∀ j, j < 40 → zS v j := fun j hj => (hX.1.1 j hj).2
  have hn1 := hX.2.1.1
  have hI : KI D A (lw ad oa cb ca v (lO v) (lK (xp v) (xt v) (xq v) (xk v) (xl v) (xm v) (xc v)) []) s.heap s.heap [] := hI
  refine lv_aload_n cx.1 cx.2.1 dL_changes_0 rfl (lv_at hl 0 rfl) ?_
  refine lc_i 0 cx (hl.1.trans hml.symm) (kX0_shadowRows l D ca ad v) hI wk_171 wk_168 wk_169 wk_170 ⟨rfl, by decide +kernel⟩ rfl ⟨rfl, rfl⟩ ⟨Nat.le_of_ble_eq_true rfl, Nat.le_of_ble_eq_true rfl⟩ (Nat.le_of_ble_eq_true rfl) dL_changes_1 ⟨Nat.le_of_ble_eq_true rfl, Nat.le_of_ble_eq_true rfl⟩ rfl (fun H locs hI => ?_)
  refine lv_istore (lv' := [(6, .int (xShRows v 40)), (0, .ref (ad 0)), (1, .int 8), (2, .int (nI xx)), (3, .int (nI yy)), (4, .ref oa), (5, .ref cb)]) cx.1 cx.2.1 dL_changes_4 hl (by decide) rfl (fun ls hl => ?_)
  refine lv_iconst (v := 0) cx.1 cx.2.1 dL_changes_6 (by decide) ?_
  refine lv_istore (lv' := [(7, .int 0), (6, .int (xShRows v 40)), (0, .ref (ad 0)), (1, .int 8), (2, .int (nI xx)), (3, .int (nI yy)), (4, .ref oa), (5, .ref cb)]) cx.1 cx.2.1 dL_changes_7 hl (by decide) rfl (fun ls hl => ?_)
  refine lv_iconst (v := 0) cx.1 cx.2.1 dL_changes_9 (by decide) ?_
  refine lv_istore (lv' := [(8, .int 0), (7, .int 0), (6, .int (xShRows v 40)), (0, .ref (ad 0)), (1, .int 8), (2, .int (nI xx)), (3, .int (nI yy)), (4, .ref oa), (5, .ref cb)]) cx.1 cx.2.1 dL_changes_10 hl (by decide) rfl (fun ls hl => ?_)
  refine k_loop 40 (fun k => (lw ad oa cb ca v (lO v) (lK (xp v) (xt v) (xq v) (xk v) (xl v) (xm v) (xc v)) [])) (fun k => [(8, .int (nI k)), (7, .int (zGo v k)), (6, .int (xShRows v 40)), (0, .ref (ad 0)), (1, .int 8), (2, .int (nI xx)), (3, .int (nI yy)), (4, .ref oa), (5, .ref cb)]) hI (lv_sub hl [0, 1, 2, 3, 4, 5, 6, 7, 8] rfl) (fun H locs ls hI hl => ?_) (fun k hk H locs ls hI hl ih => ?_)
  · have hI : KI D A (lw ad oa cb ca v (lO v) (lK (xp v) (xt v) (xq v) (xk v) (xl v) (xm v) (xc v)) []) s.heap H locs := hI
    have hl : lv_has ls 12 [(8, .int (nI 40)), (7, .int (zGo v 40)), (6, .int (xShRows v 40)), (0, .ref (ad 0)), (1, .int 8), (2, .int (nI xx)), (3, .int (nI yy)), (4, .ref oa), (5, .ref cb)] := hl
    refine lv_iload cx.1 cx.2.1 dL_changes_12 (lv_at hl 0 rfl) ?_
    refine lv_bipush (v := 40) cx.1 cx.2.1 dL_changes_14 (by decide) ?_
    refine lv_icmp_ge (tgt := 56) cx.1 cx.2.1 dL_changes_16 (by decide) (fun _ => ?_) (fun h9 => absurd (by decide : (40 : Int32) ≤ nI 40) h9)
    refine lv_iload_n cx.1 cx.2.1 dL_changes_56 rfl (lv_at hl 4 rfl) ?_
    refine lv_iconst (v := 5) cx.1 cx.2.1 dL_changes_57 (by decide) ?_
    refine lv_icmp_ne (tgt := 200) cx.1 cx.2.1 dL_changes_58 (by decide) (fun _ => ?_) (fun h9 => absurd h9 (by decide))
    refine lv_iload_n cx.1 cx.2.1 dL_changes_200 rfl (lv_at hl 4 rfl) ?_
    refine lv_bipush (v := 6) cx.1 cx.2.1 dL_changes_201 (by decide) ?_
    refine lv_icmp_ne (tgt := 325) cx.1 cx.2.1 dL_changes_203 (by decide) (fun _ => ?_) (fun h9 => absurd h9 (by decide))
    refine lv_iload_n cx.1 cx.2.1 dL_changes_325 rfl (lv_at hl 4 rfl) ?_
    refine lv_bipush (v := 7) cx.1 cx.2.1 dL_changes_326 (by decide) ?_
    refine lv_icmp_ne (tgt := 416) cx.1 cx.2.1 dL_changes_328 (by decide) (fun _ => ?_) (fun h9 => absurd h9 (by decide))
    refine lv_iload_n cx.1 cx.2.1 dL_changes_416 rfl (lv_at hl 4 rfl) ?_
    refine lv_bipush (v := 8) cx.1 cx.2.1 dL_changes_417 (by decide) ?_
    refine lv_icmp_ne (tgt := 492) cx.1 cx.2.1 dL_changes_419 (by decide) (fun h9 => absurd (by decide) h9) (fun _ => ?_)
    rcases Decidable.em (xp v = 2) with hcan | hcan
    · refine lv_aload cx.1 cx.2.1 dL_changes_422 (lv_at hl 8 rfl) ?_
      refine lv_iconst (v := 0) cx.1 cx.2.1 dL_changes_424 (by decide) ?_
      refine lr_c cx hI (vp_in_nI (n := 0) (by decide) (by decide)) dL_changes_425 ?_
      refine k_top (y := xp v) rfl ?_
      refine lv_iconst (v := 2) cx.1 cx.2.1 dL_changes_426 (by decide) ?_
      refine lv_icmp_ne (tgt := 434) cx.1 cx.2.1 dL_changes_427 (by decide) (fun h9 => absurd hcan h9) (fun _ => ?_)
      refine lv_iconst (v := 1) cx.1 cx.2.1 dL_changes_430 (by decide) ?_
      refine lv_goto (tgt := 435) cx.1 cx.2.1 dL_changes_431 (by decide) ?_
      refine lv_istore (lv' := [(8, .int 1), (7, .int (zGo v 40)), (6, .int (xShRows v 40)), (0, .ref (ad 0)), (1, .int 8), (2, .int (nI xx)), (3, .int (nI yy)), (4, .ref oa), (5, .ref cb)]) cx.1 cx.2.1 dL_changes_435 hl (by decide) rfl (fun ls hl => ?_)
      refine lv_aload cx.1 cx.2.1 dL_changes_437 (lv_at hl 8 rfl) ?_
      refine lv_iconst (v := 0) cx.1 cx.2.1 dL_changes_439 (by decide) ?_
      refine lv_iload cx.1 cx.2.1 dL_changes_440 (lv_at hl 0 rfl) ?_
      refine lv_if_eq (tgt := 449) cx.1 cx.2.1 dL_changes_442 (by decide) (fun h9 => absurd h9 (by decide)) (fun _ => ?_)
      refine lv_iconst (v := 1) cx.1 cx.2.1 dL_changes_445 (by decide) ?_
      refine lv_goto (tgt := 453) cx.1 cx.2.1 dL_changes_446 (by decide) ?_
      refine ls_c0 cx hI dL_changes_453 (fun H locs hI => ?_)
      refine lv_aload_n cx.1 cx.2.1 dL_changes_454 rfl (lv_at hl 3 rfl) ?_
      refine lv_bipush (v := 8) cx.1 cx.2.1 dL_changes_455 (by decide) ?_
      refine lv_iconst (v := 0) cx.1 cx.2.1 dL_changes_457 (by decide) ?_
      refine lv_iconst (v := 0) cx.1 cx.2.1 dL_changes_458 (by decide) ?_
      refine lv_iconst (v := 0) cx.1 cx.2.1 dL_changes_459 (by decide) ?_
      refine lc_h 5 cx hE (hl.1.trans hml.symm) (CA.ok (kL_asks8 l D ca ad v 0 0 0 hlS) (fund_0 hcan)) hI wk_213 wk_211 wk_212 wk_0 ⟨by decide, by decide, by decide +kernel⟩ rfl ⟨rfl, rfl⟩ ⟨Nat.le_of_ble_eq_true rfl, Nat.le_of_ble_eq_true rfl⟩ (Nat.le_of_ble_eq_true rfl) dL_changes_460 ⟨Nat.le_of_ble_eq_true rfl, Nat.le_of_ble_eq_true rfl⟩ rfl (fun H locs hI => ?_)
      refine lv_iload cx.1 cx.2.1 dL_changes_463 (lv_at hl 0 rfl) ?_
      refine lv_if_eq (tgt := 472) cx.1 cx.2.1 dL_changes_465 (by decide) (fun h9 => absurd h9 (by decide)) (fun _ => ?_)
      refine lv_iconst (v := 0) cx.1 cx.2.1 dL_changes_468 (by decide) ?_
      refine lv_goto (tgt := 474) cx.1 cx.2.1 dL_changes_469 (by decide) ?_
      refine lv_icmp_ne (tgt := 490) cx.1 cx.2.1 dL_changes_474 (by decide) (fun h9 => absurd (by decide) h9) (fun _ => ?_)
      refine lv_aload_n cx.1 cx.2.1 dL_changes_477 rfl (lv_at hl 3 rfl) ?_
      refine lc_i 0 cx (hl.1.trans hml.symm) (kX0_shadowRows l D ca ad (xUp v 1)) hI wk_171 wk_168 wk_169 wk_170 ⟨rfl, by decide +kernel⟩ rfl ⟨rfl, rfl⟩ ⟨Nat.le_of_ble_eq_true rfl, Nat.le_of_ble_eq_true rfl⟩ (Nat.le_of_ble_eq_true rfl) dL_changes_478 ⟨Nat.le_of_ble_eq_true rfl, Nat.le_of_ble_eq_true rfl⟩ rfl (fun H locs hI => ?_)
      refine lv_iload cx.1 cx.2.1 dL_changes_481 (lv_at hl 2 rfl) ?_
      refine lv_icmp_ne (tgt := 490) cx.1 cx.2.1 dL_changes_483 (by decide) (fun h9 => absurd rfl h9) (fun _ => ?_)
      refine lv_iconst (v := 1) cx.1 cx.2.1 dL_changes_486 (by decide) ?_
      refine lv_goto (tgt := 491) cx.1 cx.2.1 dL_changes_487 (by decide) ?_
      exact ke_g (lw ad oa cb ca (xUp v 1) (lO v) (lK 1 (xt v) (xq v) (xk v) (xl v) (xm v) (xc v)) []) [] cx hr hlk hI (Nat.le_of_ble_eq_true rfl) (Nat.le_of_ble_eq_true rfl) dL_changes_491 rfl rfl ⟨_, ⟨0, 40, (zX_undo hX hcan).mono (fun _ q => q) (by omega)⟩, lw_eq rfl rfl⟩
    · refine lv_aload cx.1 cx.2.1 dL_changes_422 (lv_at hl 8 rfl) ?_
      refine lv_iconst (v := 0) cx.1 cx.2.1 dL_changes_424 (by decide) ?_
      refine lr_c cx hI (vp_in_nI (n := 0) (by decide) (by decide)) dL_changes_425 ?_
      refine k_top (y := xp v) rfl ?_
      refine lv_iconst (v := 2) cx.1 cx.2.1 dL_changes_426 (by decide) ?_
      refine lv_icmp_ne (tgt := 434) cx.1 cx.2.1 dL_changes_427 (by decide) (fun _ => ?_) (fun h9 => absurd h9 hcan)
      refine lv_iconst (v := 0) cx.1 cx.2.1 dL_changes_434 (by decide) ?_
      refine lv_istore (lv' := [(8, .int 0), (7, .int (zGo v 40)), (6, .int (xShRows v 40)), (0, .ref (ad 0)), (1, .int 8), (2, .int (nI xx)), (3, .int (nI yy)), (4, .ref oa), (5, .ref cb)]) cx.1 cx.2.1 dL_changes_435 hl (by decide) rfl (fun ls hl => ?_)
      refine lv_aload cx.1 cx.2.1 dL_changes_437 (lv_at hl 8 rfl) ?_
      refine lv_iconst (v := 0) cx.1 cx.2.1 dL_changes_439 (by decide) ?_
      refine lv_iload cx.1 cx.2.1 dL_changes_440 (lv_at hl 0 rfl) ?_
      refine lv_if_eq (tgt := 449) cx.1 cx.2.1 dL_changes_442 (by decide) (fun _ => ?_) (fun h9 => absurd (by decide) h9)
      refine lv_aload cx.1 cx.2.1 dL_changes_449 (lv_at hl 8 rfl) ?_
      refine lv_iconst (v := 0) cx.1 cx.2.1 dL_changes_451 (by decide) ?_
      refine lr_c cx hI (vp_in_nI (n := 0) (by decide) (by decide)) dL_changes_452 ?_
      refine k_top (y := xp v) rfl ?_
      refine ls_c0 cx hI dL_changes_453 (fun H locs hI => ?_)
      refine lv_aload_n cx.1 cx.2.1 dL_changes_454 rfl (lv_at hl 3 rfl) ?_
      refine lv_bipush (v := 8) cx.1 cx.2.1 dL_changes_455 (by decide) ?_
      refine lv_iconst (v := 0) cx.1 cx.2.1 dL_changes_457 (by decide) ?_
      refine lv_iconst (v := 0) cx.1 cx.2.1 dL_changes_458 (by decide) ?_
      refine lv_iconst (v := 0) cx.1 cx.2.1 dL_changes_459 (by decide) ?_
      refine lc_h 5 cx hE (hl.1.trans hml.symm) (CA.f1 (kL_asks8 l D ca ad v 0 0 0 hlS) (fund_1 hcan)) hI wk_213 wk_211 wk_212 wk_0 ⟨by decide, by decide, by decide +kernel⟩ rfl ⟨rfl, rfl⟩ ⟨Nat.le_of_ble_eq_true rfl, Nat.le_of_ble_eq_true rfl⟩ (Nat.le_of_ble_eq_true rfl) dL_changes_460 ⟨Nat.le_of_ble_eq_true rfl, Nat.le_of_ble_eq_true rfl⟩ rfl (fun H locs hI => ?_)
      refine lv_iload cx.1 cx.2.1 dL_changes_463 (lv_at hl 0 rfl) ?_
      refine lv_if_eq (tgt := 472) cx.1 cx.2.1 dL_changes_465 (by decide) (fun _ => ?_) (fun h9 => absurd (by decide) h9)
      refine lv_bipush (v := (-8)) cx.1 cx.2.1 dL_changes_472 (by decide) ?_
      refine lv_icmp_ne (tgt := 490) cx.1 cx.2.1 dL_changes_474 (by decide) (fun h9 => absurd (by decide) h9) (fun _ => ?_)
      refine lv_aload_n cx.1 cx.2.1 dL_changes_477 rfl (lv_at hl 3 rfl) ?_
      refine lc_i 0 cx (hl.1.trans hml.symm) (kX0_shadowRows l D ca ad v) hI wk_171 wk_168 wk_169 wk_170 ⟨rfl, by decide +kernel⟩ rfl ⟨rfl, rfl⟩ ⟨Nat.le_of_ble_eq_true rfl, Nat.le_of_ble_eq_true rfl⟩ (Nat.le_of_ble_eq_true rfl) dL_changes_478 ⟨Nat.le_of_ble_eq_true rfl, Nat.le_of_ble_eq_true rfl⟩ rfl (fun H locs hI => ?_)
      refine lv_iload cx.1 cx.2.1 dL_changes_481 (lv_at hl 2 rfl) ?_
      refine lv_icmp_ne (tgt := 490) cx.1 cx.2.1 dL_changes_483 (by decide) (fun h9 => absurd rfl h9) (fun _ => ?_)
      refine lv_iconst (v := 1) cx.1 cx.2.1 dL_changes_486 (by decide) ?_
      refine lv_goto (tgt := 491) cx.1 cx.2.1 dL_changes_487 (by decide) ?_
      exact ke_g (lw ad oa cb ca v (lO v) (lK (xp v) (xt v) (xq v) (xk v) (xl v) (xm v) (xc v)) []) [] cx hr hlk hI (Nat.le_of_ble_eq_true rfl) (Nat.le_of_ble_eq_true rfl) dL_changes_491 rfl rfl ⟨v, ⟨c1, m1, hX.mono (fun _ q => q) (by omega)⟩, lw_eq rfl rfl⟩
  · have hI : KI D A (lw ad oa cb ca v (lO v) (lK (xp v) (xt v) (xq v) (xk v) (xl v) (xm v) (xc v)) []) s.heap H locs := hI
    have hl : lv_has ls 12 [(8, .int (nI k)), (7, .int (zGo v k)), (6, .int (xShRows v 40)), (0, .ref (ad 0)), (1, .int 8), (2, .int (nI xx)), (3, .int (nI yy)), (4, .ref oa), (5, .ref cb)] := hl
    refine lv_iload cx.1 cx.2.1 dL_changes_12 (lv_at hl 0 rfl) ?_
    refine lv_bipush (v := 40) cx.1 cx.2.1 dL_changes_14 (by decide) ?_
    refine lv_icmp_ge (tgt := 56) cx.1 cx.2.1 dL_changes_16 (by decide) (fun h9 => absurd h9 (nI_ge hk (by decide))) (fun _ => ?_)
    refine lv_iload cx.1 cx.2.1 dL_changes_19 (lv_at hl 1 rfl) ?_
    refine lv_aload cx.1 cx.2.1 dL_changes_21 (lv_at hl 7 rfl) ?_
    refine lv_iload cx.1 cx.2.1 dL_changes_23 (lv_at hl 0 rfl) ?_
    refine lr_on cx hI hk dL_changes_25 ?_
    refine k_join (D := D) (A := A) 47 (lw ad oa cb ca v (lO v) (lK (xp v) (xt v) (xq v) (xk v) (xl v) (xm v) (xc v)) []) [.int (b2i (xOld v (nI k) && !xSeen v (nI k))), .int (zGo v k)] (fun H locs hI => ?_) (fun hj47 => ?_)
    · refine lv_iadd cx.1 cx.2.1 dL_changes_47 ?_
      refine lv_istore (lv' := [(7, .int ((zGo v k) + (b2i (xOld v (nI k) && !xSeen v (nI k))))), (8, .int (nI k)), (6, .int (xShRows v 40)), (0, .ref (ad 0)), (1, .int 8), (2, .int (nI xx)), (3, .int (nI yy)), (4, .ref oa), (5, .ref cb)]) cx.1 cx.2.1 dL_changes_48 hl (by decide) rfl (fun ls hl => ?_)
      refine lv_iinc (v := nI (k + 1)) (lv' := [(8, .int (nI (k + 1))), (7, .int ((zGo v k) + (b2i (xOld v (nI k) && !xSeen v (nI k))))), (6, .int (xShRows v 40)), (0, .ref (ad 0)), (1, .int 8), (2, .int (nI xx)), (3, .int (nI yy)), (4, .ref oa), (5, .ref cb)]) cx.1 cx.2.1 dL_changes_50 hl (k := 1) rfl (nI_1 k) (by decide) rfl (fun ls hl => ?_)
      refine lv_goto (tgt := 12) cx.1 cx.2.1 dL_changes_53 (by decide) ?_
      refine ih _ _ _ ?_ ?_
      · show KI D A (lw ad oa cb ca v (lO v) (lK (xp v) (xt v) (xq v) (xk v) (xl v) (xm v) (xc v)) []) s.heap _ _
        exact hI
      · show lv_has _ _ [(8, .int (nI (k + 1))), (7, .int (zGo v (k + 1))), (6, .int (xShRows v 40)), (0, .ref (ad 0)), (1, .int 8), (2, .int (nI xx)), (3, .int (nI yy)), (4, .ref oa), (5, .ref cb)]
        exact lv_sub hl [0, 1, 2, 3, 4, 5, 6, 7, 8] rfl
    ·
      refine lv_if_lt (tgt := 46) cx.1 cx.2.1 dL_changes_26 (by decide) (fun c_3 => ?_) (fun c_3 => ?_)
      · refine lv_iconst (v := 0) cx.1 cx.2.1 dL_changes_46 (by decide) ?_
        exact k_top (by first | exact go_a (lO_lt hk (hA k hk) c_3) | exact go_b c_3) (hj47 _ _ hI)
      · refine lv_aload_n cx.1 cx.2.1 dL_changes_29 rfl (lv_at hl 3 rfl) ?_
        refine lv_aload cx.1 cx.2.1 dL_changes_30 (lv_at hl 7 rfl) ?_
        refine lv_aload cx.1 cx.2.1 dL_changes_32 (lv_at hl 8 rfl) ?_
        refine lv_iload cx.1 cx.2.1 dL_changes_34 (lv_at hl 0 rfl) ?_
        refine lc_w 4 cx (hl.1.trans hml.symm) (kL_isSeen l D ca ad oa cb v (lO v) (xp v) (xt v) (xq v) (xk v) (xl v) (xm v) (xc v) hk (hA k hk) (hZ k hk) rfl rfl) hI wk_82 wk_80 wk_81 wk_0 ⟨by decide, by decide, by decide +kernel⟩ rfl ⟨rfl, rfl⟩ ⟨Nat.le_of_ble_eq_true rfl, Nat.le_of_ble_eq_true rfl⟩ (Nat.le_of_ble_eq_true rfl) dL_changes_36 ⟨Nat.le_of_ble_eq_true rfl, Nat.le_of_ble_eq_true rfl⟩ rfl (fun H locs hI => ?_)
        refine kb_ne (tgt := 46) cx dL_changes_39 (by decide) (fun c_4 => ?_) (fun c_4 => ?_)
        · refine lv_iconst (v := 0) cx.1 cx.2.1 dL_changes_46 (by decide) ?_
          exact k_top (by first | exact go_a (lO_lt hk (hA k hk) c_4) | exact go_b c_4) (hj47 _ _ hI)
        · refine lv_iconst (v := 1) cx.1 cx.2.1 dL_changes_42 (by decide) ?_
          refine lv_goto (tgt := 47) cx.1 cx.2.1 dL_changes_43 (by decide) ?_
          exact k_top (go_c (lO_ge hk (hA k hk) c_3) c_4) (hj47 _ _ hI)
set_option maxHeartbeats 4000000 in
set_option maxRecDepth 100000 in
theorem kL_changes9 (l : Launch) (D : va_G) (ca : Nat → ClassId) (ad : Nat → Nat) (oa cb : Nat) {v : XS} {n xx yy : Nat} (h : zI n v) (hn : n + 2 ≤ 1000) (hXx : xx < 2 ^ 30) (hY : yy < 2 ^ 30) (hlS : l.stackTraces = false) : CG l yL_changes cL_changes 12 (some .boolean) { frames := 9, cells := 1, slots := 6, locals := 201 } D ca (lw ad oa cb ca v (lO v) (lC v) []) [.ref (ad 0), .int 9, .int (nI xx), .int (nI yy), .ref oa, .ref cb] (some (.int 1)) (LW (n + 2) ad oa cb ca) 1 6 := by
  refine CG.of (by decide) (Nat.le_of_ble_eq_true rfl) ?_
  intro p e s m below meth c0 A ls cx hml hr hlk hE hI hl
  have hl : lv_has ls 12 [(0, .ref (ad 0)), (1, .int 9), (2, .int (nI xx)), (3, .int (nI yy)), (4, .ref oa), (5, .ref cb)] := hl
  obtain ⟨c1, m1, hX⟩ := h
  have hA : ∀ j, j < 40 → zA v j := fun j hj => (hX.1.1 j hj).1
  have hZ : ∀ j, j < 40 → zS v j := fun j hj => (hX.1.1 j hj).2
  have hn1 := hX.2.1.1
  have hI : KI D A (lw ad oa cb ca v (lO v) (lK (xp v) (xt v) (xq v) (xk v) (xl v) (xm v) (xc v)) []) s.heap s.heap [] := hI
  obtain ⟨al, ha, ea⟩ : ∃ al : Nat, al ≤ 2 ∧ nI xx - nI xx / 3 * 3 = nI al := ⟨xx % 3, by omega, rem_n (d := 3) hXx (by decide) (by decide)⟩
  obtain ⟨pa, hpa, q1, q2⟩ := param_ex hY (nI yy - nI yy / 3 * 3)
  refine lv_aload_n cx.1 cx.2.1 dL_changes_0 rfl (lv_at hl 0 rfl) ?_
  refine lc_i 0 cx (hl.1.trans hml.symm) (kX0_shadowRows l D ca ad v) hI wk_171 wk_168 wk_169 wk_170 ⟨rfl, by decide +kernel⟩ rfl ⟨rfl, rfl⟩ ⟨Nat.le_of_ble_eq_true rfl, Nat.le_of_ble_eq_true rfl⟩ (Nat.le_of_ble_eq_true rfl) dL_changes_1 ⟨Nat.le_of_ble_eq_true rfl, Nat.le_of_ble_eq_true rfl⟩ rfl (fun H locs hI => ?_)
  refine lv_istore (lv' := [(6, .int (xShRows v 40)), (0, .ref (ad 0)), (1, .int 9), (2, .int (nI xx)), (3, .int (nI yy)), (4, .ref oa), (5, .ref cb)]) cx.1 cx.2.1 dL_changes_4 hl (by decide) rfl (fun ls hl => ?_)
  refine lv_iconst (v := 0) cx.1 cx.2.1 dL_changes_6 (by decide) ?_
  refine lv_istore (lv' := [(7, .int 0), (6, .int (xShRows v 40)), (0, .ref (ad 0)), (1, .int 9), (2, .int (nI xx)), (3, .int (nI yy)), (4, .ref oa), (5, .ref cb)]) cx.1 cx.2.1 dL_changes_7 hl (by decide) rfl (fun ls hl => ?_)
  refine lv_iconst (v := 0) cx.1 cx.2.1 dL_changes_9 (by decide) ?_
  refine lv_istore (lv' := [(8, .int 0), (7, .int 0), (6, .int (xShRows v 40)), (0, .ref (ad 0)), (1, .int 9), (2, .int (nI xx)), (3, .int (nI yy)), (4, .ref oa), (5, .ref cb)]) cx.1 cx.2.1 dL_changes_10 hl (by decide) rfl (fun ls hl => ?_)
  refine k_loop 40 (fun k => (lw ad oa cb ca v (lO v) (lK (xp v) (xt v) (xq v) (xk v) (xl v) (xm v) (xc v)) [])) (fun k => [(8, .int (nI k)), (7, .int (zGo v k)), (6, .int (xShRows v 40)), (0, .ref (ad 0)), (1, .int 9), (2, .int (nI xx)), (3, .int (nI yy)), (4, .ref oa), (5, .ref cb)]) hI (lv_sub hl [0, 1, 2, 3, 4, 5, 6, 7, 8] rfl) (fun H locs ls hI hl => ?_) (fun k hk H locs ls hI hl ih => ?_)
  · have hI : KI D A (lw ad oa cb ca v (lO v) (lK (xp v) (xt v) (xq v) (xk v) (xl v) (xm v) (xc v)) []) s.heap H locs := hI
    have hl : lv_has ls 12 [(8, .int (nI 40)), (7, .int (zGo v 40)), (6, .int (xShRows v 40)), (0, .ref (ad 0)), (1, .int 9), (2, .int (nI xx)), (3, .int (nI yy)), (4, .ref oa), (5, .ref cb)] := hl
    refine lv_iload cx.1 cx.2.1 dL_changes_12 (lv_at hl 0 rfl) ?_
    refine lv_bipush (v := 40) cx.1 cx.2.1 dL_changes_14 (by decide) ?_
    refine lv_icmp_ge (tgt := 56) cx.1 cx.2.1 dL_changes_16 (by decide) (fun _ => ?_) (fun h9 => absurd (by decide : (40 : Int32) ≤ nI 40) h9)
    refine lv_iload_n cx.1 cx.2.1 dL_changes_56 rfl (lv_at hl 4 rfl) ?_
    refine lv_iconst (v := 5) cx.1 cx.2.1 dL_changes_57 (by decide) ?_
    refine lv_icmp_ne (tgt := 200) cx.1 cx.2.1 dL_changes_58 (by decide) (fun _ => ?_) (fun h9 => absurd h9 (by decide))
    refine lv_iload_n cx.1 cx.2.1 dL_changes_200 rfl (lv_at hl 4 rfl) ?_
    refine lv_bipush (v := 6) cx.1 cx.2.1 dL_changes_201 (by decide) ?_
    refine lv_icmp_ne (tgt := 325) cx.1 cx.2.1 dL_changes_203 (by decide) (fun _ => ?_) (fun h9 => absurd h9 (by decide))
    refine lv_iload_n cx.1 cx.2.1 dL_changes_325 rfl (lv_at hl 4 rfl) ?_
    refine lv_bipush (v := 7) cx.1 cx.2.1 dL_changes_326 (by decide) ?_
    refine lv_icmp_ne (tgt := 416) cx.1 cx.2.1 dL_changes_328 (by decide) (fun _ => ?_) (fun h9 => absurd h9 (by decide))
    refine lv_iload_n cx.1 cx.2.1 dL_changes_416 rfl (lv_at hl 4 rfl) ?_
    refine lv_bipush (v := 8) cx.1 cx.2.1 dL_changes_417 (by decide) ?_
    refine lv_icmp_ne (tgt := 492) cx.1 cx.2.1 dL_changes_419 (by decide) (fun _ => ?_) (fun h9 => absurd h9 (by decide))
    refine lv_iload_n cx.1 cx.2.1 dL_changes_492 rfl (lv_at hl 5 rfl) ?_
    refine lv_iconst (v := 3) cx.1 cx.2.1 dL_changes_493 (by decide) ?_
    refine lv_irem cx.1 cx.2.1 dL_changes_494 (by decide) ?_
    refine k_top (y := nI al) ea ?_
    refine lv_istore (lv' := [(8, .int (nI al)), (7, .int (zGo v 40)), (6, .int (xShRows v 40)), (0, .ref (ad 0)), (1, .int 9), (2, .int (nI xx)), (3, .int (nI yy)), (4, .ref oa), (5, .ref cb)]) cx.1 cx.2.1 dL_changes_495 hl (by decide) rfl (fun ls hl => ?_)
    refine lv_iload_n cx.1 cx.2.1 dL_changes_497 rfl (lv_at hl 6 rfl) ?_
    refine lv_iconst (v := 3) cx.1 cx.2.1 dL_changes_498 (by decide) ?_
    refine lv_irem cx.1 cx.2.1 dL_changes_499 (by decide) ?_
    refine k_join (D := D) (A := A) 524 (lw ad oa cb ca v (lO v) (lK (xp v) (xt v) (xq v) (xk v) (xl v) (xm v) (xc v)) []) [.int (nI pa)] (fun H locs hI => ?_) (fun hj524 => ?_)
    · refine lv_istore (lv' := [(9, .int (nI pa)), (8, .int (nI al)), (7, .int (zGo v 40)), (6, .int (xShRows v 40)), (0, .ref (ad 0)), (1, .int 9), (2, .int (nI xx)), (3, .int (nI yy)), (4, .ref oa), (5, .ref cb)]) cx.1 cx.2.1 dL_changes_524 hl (by decide) rfl (fun ls hl => ?_)
      rcases Decidable.em (xp v = 0) with hcan | hcan
      · refine lv_aload cx.1 cx.2.1 dL_changes_526 (lv_at hl 9 rfl) ?_
        refine lv_iconst (v := 0) cx.1 cx.2.1 dL_changes_528 (by decide) ?_
        refine lr_c cx hI (vp_in_nI (n := 0) (by decide) (by decide)) dL_changes_529 ?_
        refine k_top (y := xp v) rfl ?_
        refine lv_if_ne (tgt := 537) cx.1 cx.2.1 dL_changes_530 (by decide) (fun h9 => absurd hcan h9) (fun _ => ?_)
        refine lv_iconst (v := 1) cx.1 cx.2.1 dL_changes_533 (by decide) ?_
        refine lv_goto (tgt := 538) cx.1 cx.2.1 dL_changes_534 (by decide) ?_
        refine lv_istore (lv' := [(10, .int 1), (9, .int (nI pa)), (8, .int (nI al)), (7, .int (zGo v 40)), (6, .int (xShRows v 40)), (0, .ref (ad 0)), (1, .int 9), (2, .int (nI xx)), (3, .int (nI yy)), (4, .ref oa), (5, .ref cb)]) cx.1 cx.2.1 dL_changes_538 hl (by decide) rfl (fun ls hl => ?_)
        refine lv_iload cx.1 cx.2.1 dL_changes_540 (lv_at hl 0 rfl) ?_
        refine lv_if_eq (tgt := 573) cx.1 cx.2.1 dL_changes_542 (by decide) (fun h9 => absurd h9 (by decide)) (fun _ => ?_)
        refine lv_aload cx.1 cx.2.1 dL_changes_545 (lv_at hl 10 rfl) ?_
        refine lv_iconst (v := 0) cx.1 cx.2.1 dL_changes_547 (by decide) ?_
        refine lv_iconst (v := 1) cx.1 cx.2.1 dL_changes_548 (by decide) ?_
        refine ls_c0 cx hI dL_changes_549 (fun H locs hI => ?_)
        refine lv_aload cx.1 cx.2.1 dL_changes_550 (lv_at hl 10 rfl) ?_
        refine lv_iconst (v := 1) cx.1 cx.2.1 dL_changes_552 (by decide) ?_
        refine lv_iload cx.1 cx.2.1 dL_changes_553 (lv_at hl 2 rfl) ?_
        refine ls_c1 cx hI dL_changes_555 (fun H locs hI => ?_)
        refine lv_aload cx.1 cx.2.1 dL_changes_556 (lv_at hl 10 rfl) ?_
        refine lv_iconst (v := 2) cx.1 cx.2.1 dL_changes_558 (by decide) ?_
        refine lv_iload cx.1 cx.2.1 dL_changes_559 (lv_at hl 1 rfl) ?_
        refine ls_c2 cx hI dL_changes_561 (fun H locs hI => ?_)
        refine lv_aload cx.1 cx.2.1 dL_changes_562 (lv_at hl 10 rfl) ?_
        refine lv_iconst (v := 5) cx.1 cx.2.1 dL_changes_564 (by decide) ?_
        refine lv_iconst (v := 0) cx.1 cx.2.1 dL_changes_565 (by decide) ?_
        refine ls_c5 cx hI dL_changes_566 (fun H locs hI => ?_)
        refine lv_aload cx.1 cx.2.1 dL_changes_567 (lv_at hl 10 rfl) ?_
        refine lv_bipush (v := 6) cx.1 cx.2.1 dL_changes_569 (by decide) ?_
        refine lv_iconst (v := 0) cx.1 cx.2.1 dL_changes_571 (by decide) ?_
        refine ls_c6 cx hI dL_changes_572 (fun H locs hI => ?_)
        refine lv_aload_n cx.1 cx.2.1 dL_changes_573 rfl (lv_at hl 5 rfl) ?_
        refine lv_bipush (v := 9) cx.1 cx.2.1 dL_changes_574 (by decide) ?_
        refine lv_iload cx.1 cx.2.1 dL_changes_576 (lv_at hl 2 rfl) ?_
        refine lv_iload cx.1 cx.2.1 dL_changes_578 (lv_at hl 1 rfl) ?_
        refine lv_iconst (v := 0) cx.1 cx.2.1 dL_changes_580 (by decide) ?_
        refine lc_h 5 cx hE (hl.1.trans hml.symm) (CA.ok (kL_asks9 l D ca ad v (nI al) (nI pa) 0 hlS) (fsta_0 ha hpa hcan)) hI wk_213 wk_211 wk_212 wk_0 ⟨by decide, by decide, by decide +kernel⟩ rfl ⟨rfl, rfl⟩ ⟨Nat.le_of_ble_eq_true rfl, Nat.le_of_ble_eq_true rfl⟩ (Nat.le_of_ble_eq_true rfl) dL_changes_581 ⟨Nat.le_of_ble_eq_true rfl, Nat.le_of_ble_eq_true rfl⟩ rfl (fun H locs hI => ?_)
        refine lv_iload cx.1 cx.2.1 dL_changes_584 (lv_at hl 0 rfl) ?_
        refine lv_if_eq (tgt := 593) cx.1 cx.2.1 dL_changes_586 (by decide) (fun h9 => absurd h9 (by decide)) (fun _ => ?_)
        refine lv_iconst (v := 0) cx.1 cx.2.1 dL_changes_589 (by decide) ?_
        refine lv_goto (tgt := 595) cx.1 cx.2.1 dL_changes_590 (by decide) ?_
        refine lv_icmp_ne (tgt := 614) cx.1 cx.2.1 dL_changes_595 (by decide) (fun h9 => absurd (by decide) h9) (fun _ => ?_)
        refine lv_iload cx.1 cx.2.1 dL_changes_598 (lv_at hl 0 rfl) ?_
        refine lv_if_eq (tgt := 610) cx.1 cx.2.1 dL_changes_600 (by decide) (fun h9 => absurd h9 (by decide)) (fun _ => ?_)
        refine lv_aload_n cx.1 cx.2.1 dL_changes_603 rfl (lv_at hl 5 rfl) ?_
        refine lc_i 0 cx (hl.1.trans hml.symm) (kX0_shadowRows l D ca ad (xStart v (nI al) (nI pa))) hI wk_171 wk_168 wk_169 wk_170 ⟨rfl, by decide +kernel⟩ rfl ⟨rfl, rfl⟩ ⟨Nat.le_of_ble_eq_true rfl, Nat.le_of_ble_eq_true rfl⟩ (Nat.le_of_ble_eq_true rfl) dL_changes_604 ⟨Nat.le_of_ble_eq_true rfl, Nat.le_of_ble_eq_true rfl⟩ rfl (fun H locs hI => ?_)
        refine lv_if_ne (tgt := 614) cx.1 cx.2.1 dL_changes_607 (by decide) (fun h9 => absurd (show xShRows (xStart v (nI al) (nI pa)) 40 = 0 from (idle_c0 hX hcan).2) h9) (fun _ => ?_)
        refine lv_iconst (v := 1) cx.1 cx.2.1 dL_changes_610 (by decide) ?_
        refine lv_goto (tgt := 615) cx.1 cx.2.1 dL_changes_611 (by decide) ?_
        exact ke_g (lw ad oa cb ca (xStart v (nI al) (nI pa)) (lO v) (lK 1 (nI al) (nI pa) (xk v) (xl v) 0 0) []) [] cx hr hlk hI (Nat.le_of_ble_eq_true rfl) (Nat.le_of_ble_eq_true rfl) dL_changes_615 rfl rfl ⟨_, ⟨0, 0, (zX_start hX hcan (nI al) hpa).mono (fun _ q => q) (by omega)⟩, lw_eq rfl (lC_sta _ _ (idle_c0 hX hcan).1)⟩
      · refine lv_aload cx.1 cx.2.1 dL_changes_526 (lv_at hl 9 rfl) ?_
        refine lv_iconst (v := 0) cx.1 cx.2.1 dL_changes_528 (by decide) ?_
        refine lr_c cx hI (vp_in_nI (n := 0) (by decide) (by decide)) dL_changes_529 ?_
        refine k_top (y := xp v) rfl ?_
        refine lv_if_ne (tgt := 537) cx.1 cx.2.1 dL_changes_530 (by decide) (fun _ => ?_) (fun h9 => absurd h9 hcan)
        refine lv_iconst (v := 0) cx.1 cx.2.1 dL_changes_537 (by decide) ?_
        refine lv_istore (lv' := [(10, .int 0), (9, .int (nI pa)), (8, .int (nI al)), (7, .int (zGo v 40)), (6, .int (xShRows v 40)), (0, .ref (ad 0)), (1, .int 9), (2, .int (nI xx)), (3, .int (nI yy)), (4, .ref oa), (5, .ref cb)]) cx.1 cx.2.1 dL_changes_538 hl (by decide) rfl (fun ls hl => ?_)
        refine lv_iload cx.1 cx.2.1 dL_changes_540 (lv_at hl 0 rfl) ?_
        refine lv_if_eq (tgt := 573) cx.1 cx.2.1 dL_changes_542 (by decide) (fun _ => ?_) (fun h9 => absurd (by decide) h9)
        refine lv_aload_n cx.1 cx.2.1 dL_changes_573 rfl (lv_at hl 5 rfl) ?_
        refine lv_bipush (v := 9) cx.1 cx.2.1 dL_changes_574 (by decide) ?_
        refine lv_iload cx.1 cx.2.1 dL_changes_576 (lv_at hl 2 rfl) ?_
        refine lv_iload cx.1 cx.2.1 dL_changes_578 (lv_at hl 1 rfl) ?_
        refine lv_iconst (v := 0) cx.1 cx.2.1 dL_changes_580 (by decide) ?_
        refine lc_h 5 cx hE (hl.1.trans hml.symm) (CA.f2 (kL_asks9 l D ca ad v (nI al) (nI pa) 0 hlS) (fsta_2 ha hpa hcan)) hI wk_213 wk_211 wk_212 wk_0 ⟨by decide, by decide, by decide +kernel⟩ rfl ⟨rfl, rfl⟩ ⟨Nat.le_of_ble_eq_true rfl, Nat.le_of_ble_eq_true rfl⟩ (Nat.le_of_ble_eq_true rfl) dL_changes_581 ⟨Nat.le_of_ble_eq_true rfl, Nat.le_of_ble_eq_true rfl⟩ rfl (fun H locs hI => ?_)
        refine lv_iload cx.1 cx.2.1 dL_changes_584 (lv_at hl 0 rfl) ?_
        refine lv_if_eq (tgt := 593) cx.1 cx.2.1 dL_changes_586 (by decide) (fun _ => ?_) (fun h9 => absurd (by decide) h9)
        refine lv_bipush (v := (-8)) cx.1 cx.2.1 dL_changes_593 (by decide) ?_
        refine lv_icmp_ne (tgt := 614) cx.1 cx.2.1 dL_changes_595 (by decide) (fun h9 => absurd (by decide) h9) (fun _ => ?_)
        refine lv_iload cx.1 cx.2.1 dL_changes_598 (lv_at hl 0 rfl) ?_
        refine lv_if_eq (tgt := 610) cx.1 cx.2.1 dL_changes_600 (by decide) (fun _ => ?_) (fun h9 => absurd (by decide) h9)
        refine lv_iconst (v := 1) cx.1 cx.2.1 dL_changes_610 (by decide) ?_
        refine lv_goto (tgt := 615) cx.1 cx.2.1 dL_changes_611 (by decide) ?_
        exact ke_g (lw ad oa cb ca v (lO v) (lK (xp v) (xt v) (xq v) (xk v) (xl v) (xm v) (xc v)) []) [] cx hr hlk hI (Nat.le_of_ble_eq_true rfl) (Nat.le_of_ble_eq_true rfl) dL_changes_615 rfl rfl ⟨v, ⟨c1, m1, hX.mono (fun _ q => q) (by omega)⟩, lw_eq rfl rfl⟩
    ·
      refine lv_if_ne (tgt := 513) cx.1 cx.2.1 dL_changes_500 (by decide) (fun c_2 => ?_) (fun c_2 => ?_)
      · refine lv_sipush (v := 300) cx.1 cx.2.1 dL_changes_513 (by decide) ?_
        refine lv_iload_n cx.1 cx.2.1 dL_changes_516 rfl (lv_at hl 6 rfl) ?_
        refine lv_iconst (v := 3) cx.1 cx.2.1 dL_changes_517 (by decide) ?_
        refine lv_idiv cx.1 cx.2.1 dL_changes_518 (by decide) ?_
        refine lv_sipush (v := 500) cx.1 cx.2.1 dL_changes_519 (by decide) ?_
        refine lv_irem cx.1 cx.2.1 dL_changes_522 (by decide) ?_
        refine lv_iadd cx.1 cx.2.1 dL_changes_523 ?_
        exact k_top (by first | exact q1 c_2 | exact q2 c_2) (hj524 _ _ hI)
      · refine lv_iload_n cx.1 cx.2.1 dL_changes_503 rfl (lv_at hl 6 rfl) ?_
        refine lv_iconst (v := 3) cx.1 cx.2.1 dL_changes_504 (by decide) ?_
        refine lv_idiv cx.1 cx.2.1 dL_changes_505 (by decide) ?_
        refine lv_sipush (v := 1000) cx.1 cx.2.1 dL_changes_506 (by decide) ?_
        refine lv_irem cx.1 cx.2.1 dL_changes_509 (by decide) ?_
        refine lv_goto (tgt := 524) cx.1 cx.2.1 dL_changes_510 (by decide) ?_
        exact k_top (by first | exact q1 c_2 | exact q2 c_2) (hj524 _ _ hI)
  · have hI : KI D A (lw ad oa cb ca v (lO v) (lK (xp v) (xt v) (xq v) (xk v) (xl v) (xm v) (xc v)) []) s.heap H locs := hI
    have hl : lv_has ls 12 [(8, .int (nI k)), (7, .int (zGo v k)), (6, .int (xShRows v 40)), (0, .ref (ad 0)), (1, .int 9), (2, .int (nI xx)), (3, .int (nI yy)), (4, .ref oa), (5, .ref cb)] := hl
    refine lv_iload cx.1 cx.2.1 dL_changes_12 (lv_at hl 0 rfl) ?_
    refine lv_bipush (v := 40) cx.1 cx.2.1 dL_changes_14 (by decide) ?_
    refine lv_icmp_ge (tgt := 56) cx.1 cx.2.1 dL_changes_16 (by decide) (fun h9 => absurd h9 (nI_ge hk (by decide))) (fun _ => ?_)
    refine lv_iload cx.1 cx.2.1 dL_changes_19 (lv_at hl 1 rfl) ?_
    refine lv_aload cx.1 cx.2.1 dL_changes_21 (lv_at hl 7 rfl) ?_
    refine lv_iload cx.1 cx.2.1 dL_changes_23 (lv_at hl 0 rfl) ?_
    refine lr_on cx hI hk dL_changes_25 ?_
    refine k_join (D := D) (A := A) 47 (lw ad oa cb ca v (lO v) (lK (xp v) (xt v) (xq v) (xk v) (xl v) (xm v) (xc v)) []) [.int (b2i (xOld v (nI k) && !xSeen v (nI k))), .int (zGo v k)] (fun H locs hI => ?_) (fun hj47 => ?_)
    · refine lv_iadd cx.1 cx.2.1 dL_changes_47 ?_
      refine lv_istore (lv' := [(7, .int ((zGo v k) + (b2i (xOld v (nI k) && !xSeen v (nI k))))), (8, .int (nI k)), (6, .int (xShRows v 40)), (0, .ref (ad 0)), (1, .int 9), (2, .int (nI xx)), (3, .int (nI yy)), (4, .ref oa), (5, .ref cb)]) cx.1 cx.2.1 dL_changes_48 hl (by decide) rfl (fun ls hl => ?_)
      refine lv_iinc (v := nI (k + 1)) (lv' := [(8, .int (nI (k + 1))), (7, .int ((zGo v k) + (b2i (xOld v (nI k) && !xSeen v (nI k))))), (6, .int (xShRows v 40)), (0, .ref (ad 0)), (1, .int 9), (2, .int (nI xx)), (3, .int (nI yy)), (4, .ref oa), (5, .ref cb)]) cx.1 cx.2.1 dL_changes_50 hl (k := 1) rfl (nI_1 k) (by decide) rfl (fun ls hl => ?_)
      refine lv_goto (tgt := 12) cx.1 cx.2.1 dL_changes_53 (by decide) ?_
      refine ih _ _ _ ?_ ?_
      · show KI D A (lw ad oa cb ca v (lO v) (lK (xp v) (xt v) (xq v) (xk v) (xl v) (xm v) (xc v)) []) s.heap _ _
        exact hI
      · show lv_has _ _ [(8, .int (nI (k + 1))), (7, .int (zGo v (k + 1))), (6, .int (xShRows v 40)), (0, .ref (ad 0)), (1, .int 9), (2, .int (nI xx)), (3, .int (nI yy)), (4, .ref oa), (5, .ref cb)]
        exact lv_sub hl [0, 1, 2, 3, 4, 5, 6, 7, 8] rfl
    ·
      refine lv_if_lt (tgt := 46) cx.1 cx.2.1 dL_changes_26 (by decide) (fun c_4 => ?_) (fun c_4 => ?_)
      · refine lv_iconst (v := 0) cx.1 cx.2.1 dL_changes_46 (by decide) ?_
        exact k_top (by first | exact go_a (lO_lt hk (hA k hk) c_4) | exact go_b c_4) (hj47 _ _ hI)
      · refine lv_aload_n cx.1 cx.2.1 dL_changes_29 rfl (lv_at hl 3 rfl) ?_
        refine lv_aload cx.1 cx.2.1 dL_changes_30 (lv_at hl 7 rfl) ?_
        refine lv_aload cx.1 cx.2.1 dL_changes_32 (lv_at hl 8 rfl) ?_
        refine lv_iload cx.1 cx.2.1 dL_changes_34 (lv_at hl 0 rfl) ?_
        refine lc_w 4 cx (hl.1.trans hml.symm) (kL_isSeen l D ca ad oa cb v (lO v) (xp v) (xt v) (xq v) (xk v) (xl v) (xm v) (xc v) hk (hA k hk) (hZ k hk) rfl rfl) hI wk_82 wk_80 wk_81 wk_0 ⟨by decide, by decide, by decide +kernel⟩ rfl ⟨rfl, rfl⟩ ⟨Nat.le_of_ble_eq_true rfl, Nat.le_of_ble_eq_true rfl⟩ (Nat.le_of_ble_eq_true rfl) dL_changes_36 ⟨Nat.le_of_ble_eq_true rfl, Nat.le_of_ble_eq_true rfl⟩ rfl (fun H locs hI => ?_)
        refine kb_ne (tgt := 46) cx dL_changes_39 (by decide) (fun c_5 => ?_) (fun c_5 => ?_)
        · refine lv_iconst (v := 0) cx.1 cx.2.1 dL_changes_46 (by decide) ?_
          exact k_top (by first | exact go_a (lO_lt hk (hA k hk) c_5) | exact go_b c_5) (hj47 _ _ hI)
        · refine lv_iconst (v := 1) cx.1 cx.2.1 dL_changes_42 (by decide) ?_
          refine lv_goto (tgt := 47) cx.1 cx.2.1 dL_changes_43 (by decide) ?_
          exact k_top (go_c (lO_ge hk (hA k hk) c_4) c_5) (hj47 _ _ hI)

/-! MINE: a table: sixty steps, each as it should be. -/
abbrev RMT : Room := { frames := 11, cells := 131, slots := 2046, locals := 262 }
theorem ix_is (a k d : Nat) : (nI a + (3 * nI k)) + nI d = nI (a + 3 * k + d) := by
  rw [show (3 : Int32) = nI 3 from rfl, pk_mul, nI_add, nI_add]
theorem ix_0 (a k : Nat) : nI a + (3 * nI k) = nI (a + 3 * k) := by
  rw [show (3 : Int32) = nI 3 from rfl, pk_mul, nI_add]
section TABLE
variable {p : Program} {e : Env} {s : State} {m : MethodId} {args : Array Value} {below : List Frame} {meth : Method} {c : Code} {Q : State → Prop}
variable {D : va_G} {ca : Nat → ClassId} {A : Nat → Prop} {b L : Nat} {xs : Nat → Int32} {xa : Nat → Nat} {oa cb a0 : Nat}
set_option maxHeartbeats 4000000 in
set_option maxRecDepth 100000 in
theorem table_turn (l : Launch) {cells slots k : Nat} {v : XS} {H : Heap} {locs : List Loc} {ls : Array Slot} (cx : KC p c cL_table s args m RL D ca) (hml : c.maxLocals = 9) (hE : KE A s s.heap) (hlS : l.stackTraces = false) (hX : va_X b L xs s s.heap) (hbl : b < s.heap.size) (hbA : ¬ A b) (hL : L ≤ 260) (ha : a0 < 1000) (hk : k < 60) (hc : cells + 2 ≤ 131) (hs : slots + 12 ≤ 2046) (hI : KI D A (lw xa oa cb ca v (lO v) (lC v) []) s.heap H locs) (hz : zI (2 * k) v) (hl : lv_has ls 9 [(5, .int (nI k)), (0, .ref b), (1, .int (nI a0)), (2, .ref (xa 0)), (3, .ref oa), (4, .ref cb)])
    (kk : ∀ H locs ls v, KI D A (lw xa oa cb ca v (lO v) (lC v) []) s.heap H locs → zI (2 * k + 2) v → lv_has ls 9 [(5, .int (nI (k + 1))), (0, .ref b), (1, .int (nI a0)), (2, .ref (xa 0)), (3, .ref oa), (4, .ref cb)] → W p l e RMT s m args below meth c H locs (cells + 1 + 1) (slots + 6 + 6) Q (F0 m 55 ls [])) : W p l e RMT s m args below meth c H locs cells slots Q (F0 m 55 ls []) := by
  refine lv_iload cx.1 cx.2.1 dL_table_55 (lv_at hl 0 rfl) ?_
  refine lv_bipush (v := 60) cx.1 cx.2.1 dL_table_57 (by decide) ?_
  refine lv_icmp_ge (tgt := 165) cx.1 cx.2.1 dL_table_59 (by decide) (fun h9 => absurd h9 (nI_ge hk (by decide))) (fun _ => ?_)
  refine lv_aload_n cx.1 cx.2.1 dL_table_62 rfl (lv_at hl 1 rfl) ?_
  refine lv_iload_n cx.1 cx.2.1 dL_table_63 rfl (lv_at hl 2 rfl) ?_
  refine lv_iconst (v := 3) cx.1 cx.2.1 dL_table_64 (by decide) ?_
  refine lv_iload cx.1 cx.2.1 dL_table_65 (lv_at hl 0 rfl) ?_
  refine lv_imul cx.1 cx.2.1 dL_table_67 ?_
  refine lv_iadd cx.1 cx.2.1 dL_table_68 ?_
  refine lv_iconst (v := 1) cx.1 cx.2.1 dL_table_69 (by decide) ?_
  refine lv_iadd cx.1 cx.2.1 dL_table_70 ?_
  refine k_top (y := nI (a0 + 3 * k + 1)) (ix_is a0 k 1) ?_
  refine lv_ldc (v := 1073741824) cx.1 cx.2.1 cx.2.2.1 (cx.2.2.2.1 _ wk_67) dL_table_71 ?_
  refine k_callD cx (hl.1.trans hml.symm) (kL_draw l D ca b L xs hL (kk := a0 + 3 * k + 1) (m9 := 1073741824) (most := 1073741824) (by omega) (by decide) (by decide) rfl) hI hX hbl hbA wk_68 ⟨Nat.le_of_ble_eq_true rfl, Nat.le_of_ble_eq_true rfl⟩ (Nat.le_of_ble_eq_true rfl) dL_table_73 ⟨by show cells ≤ 131; omega, by show slots ≤ 2046; omega⟩ (fun r1 hr1 H locs hI => ?_)
  refine lv_istore (lv' := [(6, .int (nI r1)), (5, .int (nI k)), (0, .ref b), (1, .int (nI a0)), (2, .ref (xa 0)), (3, .ref oa), (4, .ref cb)]) cx.1 cx.2.1 dL_table_76 hl (by decide) rfl (fun ls hl => ?_)
  refine lv_aload_n cx.1 cx.2.1 dL_table_78 rfl (lv_at hl 2 rfl) ?_
  refine lv_iload_n cx.1 cx.2.1 dL_table_79 rfl (lv_at hl 3 rfl) ?_
  refine lv_iconst (v := 3) cx.1 cx.2.1 dL_table_80 (by decide) ?_
  refine lv_iload cx.1 cx.2.1 dL_table_81 (lv_at hl 1 rfl) ?_
  refine lv_imul cx.1 cx.2.1 dL_table_83 ?_
  refine lv_iadd cx.1 cx.2.1 dL_table_84 ?_
  refine lv_iconst (v := 2) cx.1 cx.2.1 dL_table_85 (by decide) ?_
  refine lv_iadd cx.1 cx.2.1 dL_table_86 ?_
  refine k_top (y := nI (a0 + 3 * k + 2)) (ix_is a0 k 2) ?_
  refine lv_ldc (v := 1073741824) cx.1 cx.2.1 cx.2.2.1 (cx.2.2.2.1 _ wk_67) dL_table_87 ?_
  refine k_callD cx (hl.1.trans hml.symm) (kL_draw l D ca b L xs hL (kk := a0 + 3 * k + 2) (m9 := 1073741824) (most := 1073741824) (by omega) (by decide) (by decide) rfl) hI hX hbl hbA wk_68 ⟨Nat.le_of_ble_eq_true rfl, Nat.le_of_ble_eq_true rfl⟩ (Nat.le_of_ble_eq_true rfl) dL_table_89 ⟨by show cells ≤ 131; omega, by show slots ≤ 2046; omega⟩ (fun r2 hr2 H locs hI => ?_)
  refine lv_istore (lv' := [(7, .int (nI r2)), (6, .int (nI r1)), (5, .int (nI k)), (0, .ref b), (1, .int (nI a0)), (2, .ref (xa 0)), (3, .ref oa), (4, .ref cb)]) cx.1 cx.2.1 dL_table_92 hl (by decide) rfl (fun ls hl => ?_)
  refine lv_iload cx.1 cx.2.1 dL_table_94 (lv_at hl 2 rfl) ?_
  refine lv_bipush (v := 8) cx.1 cx.2.1 dL_table_96 (by decide) ?_
  refine lv_icmp_ge (tgt := 105) cx.1 cx.2.1 dL_table_98 (by decide) (fun c_1 => ?_) (fun c_1 => ?_)
  · refine lv_iload cx.1 cx.2.1 dL_table_105 (lv_at hl 2 rfl) ?_
    refine lv_bipush (v := 8) cx.1 cx.2.1 dL_table_107 (by decide) ?_
    refine lv_icmp_ne (tgt := 117) cx.1 cx.2.1 dL_table_109 (by decide) (fun c_2 => ?_) (fun c_2 => ?_)
    · refine lv_aload_n cx.1 cx.2.1 dL_table_117 rfl (lv_at hl 3 rfl) ?_
      refine lv_iload_n cx.1 cx.2.1 dL_table_118 rfl (lv_at hl 4 rfl) ?_
      refine lv_iconst (v := 3) cx.1 cx.2.1 dL_table_119 (by decide) ?_
      refine lv_iload cx.1 cx.2.1 dL_table_120 (lv_at hl 2 rfl) ?_
      refine lv_imul cx.1 cx.2.1 dL_table_122 ?_
      refine lv_iadd cx.1 cx.2.1 dL_table_123 ?_
      refine k_top (y := nI (a0 + 3 * k)) (ix_0 a0 k) ?_
      refine lv_bipush (v := 21) cx.1 cx.2.1 dL_table_124 (by decide) ?_
      refine k_callD cx (hl.1.trans hml.symm) (kL_draw l D ca b L xs hL (kk := a0 + 3 * k) (m9 := 21) (most := 21) (by omega) (by decide) (by decide) rfl) hI hX hbl hbA wk_68 ⟨Nat.le_of_ble_eq_true rfl, Nat.le_of_ble_eq_true rfl⟩ (Nat.le_of_ble_eq_true rfl) dL_table_126 ⟨by show cells ≤ 131; omega, by show slots ≤ 2046; omega⟩ (fun r3 hr3 H locs hI => ?_)
      refine lv_istore (lv' := [(8, .int (nI r3)), (7, .int (nI r2)), (6, .int (nI r1)), (5, .int (nI k)), (0, .ref b), (1, .int (nI a0)), (2, .ref (xa 0)), (3, .ref oa), (4, .ref cb)]) cx.1 cx.2.1 dL_table_129 hl (by decide) rfl (fun ls hl => ?_)
      refine lv_aload_n cx.1 cx.2.1 dL_table_131 rfl (lv_at hl 6 rfl) ?_
      refine lv_iload cx.1 cx.2.1 dL_table_132 (lv_at hl 0 rfl) ?_
      refine lv_iload cx.1 cx.2.1 dL_table_134 (lv_at hl 2 rfl) ?_
      refine lv_iload cx.1 cx.2.1 dL_table_136 (lv_at hl 1 rfl) ?_
      refine lv_aload_n cx.1 cx.2.1 dL_table_138 rfl (lv_at hl 7 rfl) ?_
      refine lv_aload cx.1 cx.2.1 dL_table_139 (lv_at hl 8 rfl) ?_
      refine k_callG 6 [] [] cx hE (hl.1.trans hml.symm) (kL_step l D ca xa oa cb (w := r3) (xx := r1) (yy := r2) hz (by omega) hr1 hr2 hlS) hI rfl (fun w9 h9 => LW.ad h9) wk_76 wk_74 wk_75 wk_0 ⟨by decide, by decide, by decide +kernel⟩ rfl ⟨rfl, rfl⟩ ⟨Nat.le_of_ble_eq_true rfl, Nat.le_of_ble_eq_true rfl⟩ (Nat.le_of_ble_eq_true rfl) dL_table_141 ⟨by show cells + 1 ≤ 131; omega, by show slots + 6 ≤ 2046; omega⟩ rfl (fun w9 hΦ H locs hI => ?_)
      obtain ⟨v2, hz2, rfl⟩ := hΦ
      have hI : KI D A (lw xa oa cb ca v2 (lO v2) (lC v2) []) s.heap H locs := hI
      refine lv_if_eq (tgt := 157) cx.1 cx.2.1 dL_table_144 (by decide) (fun h9 => absurd h9 (by decide)) (fun _ => ?_)
      refine lv_aload_n cx.1 cx.2.1 dL_table_147 rfl (lv_at hl 6 rfl) ?_
      refine lv_aload_n cx.1 cx.2.1 dL_table_148 rfl (lv_at hl 7 rfl) ?_
      refine lv_aload cx.1 cx.2.1 dL_table_149 (lv_at hl 8 rfl) ?_
      refine k_callG 3 [] [] cx hE (hl.1.trans hml.symm) (kL_isTold l D ca xa oa cb hz2) hI rfl (fun w9 h9 => by rw [h9]) wk_411 wk_409 wk_410 wk_0 ⟨by decide, by decide, by decide +kernel⟩ rfl ⟨rfl, rfl⟩ ⟨Nat.le_of_ble_eq_true rfl, Nat.le_of_ble_eq_true rfl⟩ (Nat.le_of_ble_eq_true rfl) dL_table_151 ⟨by show cells + 1 + 1 ≤ 131; omega, by show slots + 6 + 6 ≤ 2046; omega⟩ rfl (fun w9 hΦ H locs hI => ?_)
      subst hΦ
      have hI : KI D A (lw xa oa cb ca v2 (lO v2) (lC v2) []) s.heap H locs := hI
      refine lv_if_ne (tgt := 159) cx.1 cx.2.1 dL_table_154 (by decide) (fun _ => ?_) (fun h9 => absurd h9 (by decide))
      refine lv_iinc (v := nI (k + 1)) (lv' := [(5, .int (nI (k + 1))), (8, .int (nI r3)), (7, .int (nI r2)), (6, .int (nI r1)), (0, .ref b), (1, .int (nI a0)), (2, .ref (xa 0)), (3, .ref oa), (4, .ref cb)]) cx.1 cx.2.1 dL_table_159 hl (k := 3) rfl (nI_1 k) (by decide) rfl (fun ls hl => ?_)
      refine lv_goto (tgt := 55) cx.1 cx.2.1 dL_table_162 (by decide) ?_
      exact kk _ _ _ v2 hI hz2 (lv_sub hl [0, 4, 5, 6, 7, 8] rfl)
    · refine lv_bipush (v := 15) cx.1 cx.2.1 dL_table_112 (by decide) ?_
      refine lv_goto (tgt := 129) cx.1 cx.2.1 dL_table_114 (by decide) ?_
      refine k_top (y := nI 15) rfl ?_
      refine lv_istore (lv' := [(8, .int (nI 15)), (7, .int (nI r2)), (6, .int (nI r1)), (5, .int (nI k)), (0, .ref b), (1, .int (nI a0)), (2, .ref (xa 0)), (3, .ref oa), (4, .ref cb)]) cx.1 cx.2.1 dL_table_129 hl (by decide) rfl (fun ls hl => ?_)
      refine lv_aload_n cx.1 cx.2.1 dL_table_131 rfl (lv_at hl 6 rfl) ?_
      refine lv_iload cx.1 cx.2.1 dL_table_132 (lv_at hl 0 rfl) ?_
      refine lv_iload cx.1 cx.2.1 dL_table_134 (lv_at hl 2 rfl) ?_
      refine lv_iload cx.1 cx.2.1 dL_table_136 (lv_at hl 1 rfl) ?_
      refine lv_aload_n cx.1 cx.2.1 dL_table_138 rfl (lv_at hl 7 rfl) ?_
      refine lv_aload cx.1 cx.2.1 dL_table_139 (lv_at hl 8 rfl) ?_
      refine k_callG 6 [] [] cx hE (hl.1.trans hml.symm) (kL_step l D ca xa oa cb (w := 15) (xx := r1) (yy := r2) hz (by omega) hr1 hr2 hlS) hI rfl (fun w9 h9 => LW.ad h9) wk_76 wk_74 wk_75 wk_0 ⟨by decide, by decide, by decide +kernel⟩ rfl ⟨rfl, rfl⟩ ⟨Nat.le_of_ble_eq_true rfl, Nat.le_of_ble_eq_true rfl⟩ (Nat.le_of_ble_eq_true rfl) dL_table_141 ⟨by show cells + 1 ≤ 131; omega, by show slots + 6 ≤ 2046; omega⟩ rfl (fun w9 hΦ H locs hI => ?_)
      obtain ⟨v2, hz2, rfl⟩ := hΦ
      have hI : KI D A (lw xa oa cb ca v2 (lO v2) (lC v2) []) s.heap H locs := hI
      refine lv_if_eq (tgt := 157) cx.1 cx.2.1 dL_table_144 (by decide) (fun h9 => absurd h9 (by decide)) (fun _ => ?_)
      refine lv_aload_n cx.1 cx.2.1 dL_table_147 rfl (lv_at hl 6 rfl) ?_
      refine lv_aload_n cx.1 cx.2.1 dL_table_148 rfl (lv_at hl 7 rfl) ?_
      refine lv_aload cx.1 cx.2.1 dL_table_149 (lv_at hl 8 rfl) ?_
      refine k_callG 3 [] [] cx hE (hl.1.trans hml.symm) (kL_isTold l D ca xa oa cb hz2) hI rfl (fun w9 h9 => by rw [h9]) wk_411 wk_409 wk_410 wk_0 ⟨by decide, by decide, by decide +kernel⟩ rfl ⟨rfl, rfl⟩ ⟨Nat.le_of_ble_eq_true rfl, Nat.le_of_ble_eq_true rfl⟩ (Nat.le_of_ble_eq_true rfl) dL_table_151 ⟨by show cells + 1 + 1 ≤ 131; omega, by show slots + 6 + 6 ≤ 2046; omega⟩ rfl (fun w9 hΦ H locs hI => ?_)
      subst hΦ
      have hI : KI D A (lw xa oa cb ca v2 (lO v2) (lC v2) []) s.heap H locs := hI
      refine lv_if_ne (tgt := 159) cx.1 cx.2.1 dL_table_154 (by decide) (fun _ => ?_) (fun h9 => absurd h9 (by decide))
      refine lv_iinc (v := nI (k + 1)) (lv' := [(5, .int (nI (k + 1))), (8, .int (nI 15)), (7, .int (nI r2)), (6, .int (nI r1)), (0, .ref b), (1, .int (nI a0)), (2, .ref (xa 0)), (3, .ref oa), (4, .ref cb)]) cx.1 cx.2.1 dL_table_159 hl (k := 3) rfl (nI_1 k) (by decide) rfl (fun ls hl => ?_)
      refine lv_goto (tgt := 55) cx.1 cx.2.1 dL_table_162 (by decide) ?_
      exact kk _ _ _ v2 hI hz2 (lv_sub hl [0, 4, 5, 6, 7, 8] rfl)
  · refine lv_iconst (v := 0) cx.1 cx.2.1 dL_table_101 (by decide) ?_
    refine lv_goto (tgt := 129) cx.1 cx.2.1 dL_table_102 (by decide) ?_
    refine k_top (y := nI 0) rfl ?_
    refine lv_istore (lv' := [(8, .int (nI 0)), (7, .int (nI r2)), (6, .int (nI r1)), (5, .int (nI k)), (0, .ref b), (1, .int (nI a0)), (2, .ref (xa 0)), (3, .ref oa), (4, .ref cb)]) cx.1 cx.2.1 dL_table_129 hl (by decide) rfl (fun ls hl => ?_)
    refine lv_aload_n cx.1 cx.2.1 dL_table_131 rfl (lv_at hl 6 rfl) ?_
    refine lv_iload cx.1 cx.2.1 dL_table_132 (lv_at hl 0 rfl) ?_
    refine lv_iload cx.1 cx.2.1 dL_table_134 (lv_at hl 2 rfl) ?_
    refine lv_iload cx.1 cx.2.1 dL_table_136 (lv_at hl 1 rfl) ?_
    refine lv_aload_n cx.1 cx.2.1 dL_table_138 rfl (lv_at hl 7 rfl) ?_
    refine lv_aload cx.1 cx.2.1 dL_table_139 (lv_at hl 8 rfl) ?_
    refine k_callG 6 [] [] cx hE (hl.1.trans hml.symm) (kL_step l D ca xa oa cb (w := 0) (xx := r1) (yy := r2) hz (by omega) hr1 hr2 hlS) hI rfl (fun w9 h9 => LW.ad h9) wk_76 wk_74 wk_75 wk_0 ⟨by decide, by decide, by decide +kernel⟩ rfl ⟨rfl, rfl⟩ ⟨Nat.le_of_ble_eq_true rfl, Nat.le_of_ble_eq_true rfl⟩ (Nat.le_of_ble_eq_true rfl) dL_table_141 ⟨by show cells + 1 ≤ 131; omega, by show slots + 6 ≤ 2046; omega⟩ rfl (fun w9 hΦ H locs hI => ?_)
    obtain ⟨v2, hz2, rfl⟩ := hΦ
    have hI : KI D A (lw xa oa cb ca v2 (lO v2) (lC v2) []) s.heap H locs := hI
    refine lv_if_eq (tgt := 157) cx.1 cx.2.1 dL_table_144 (by decide) (fun h9 => absurd h9 (by decide)) (fun _ => ?_)
    refine lv_aload_n cx.1 cx.2.1 dL_table_147 rfl (lv_at hl 6 rfl) ?_
    refine lv_aload_n cx.1 cx.2.1 dL_table_148 rfl (lv_at hl 7 rfl) ?_
    refine lv_aload cx.1 cx.2.1 dL_table_149 (lv_at hl 8 rfl) ?_
    refine k_callG 3 [] [] cx hE (hl.1.trans hml.symm) (kL_isTold l D ca xa oa cb hz2) hI rfl (fun w9 h9 => by rw [h9]) wk_411 wk_409 wk_410 wk_0 ⟨by decide, by decide, by decide +kernel⟩ rfl ⟨rfl, rfl⟩ ⟨Nat.le_of_ble_eq_true rfl, Nat.le_of_ble_eq_true rfl⟩ (Nat.le_of_ble_eq_true rfl) dL_table_151 ⟨by show cells + 1 + 1 ≤ 131; omega, by show slots + 6 + 6 ≤ 2046; omega⟩ rfl (fun w9 hΦ H locs hI => ?_)
    subst hΦ
    have hI : KI D A (lw xa oa cb ca v2 (lO v2) (lC v2) []) s.heap H locs := hI
    refine lv_if_ne (tgt := 159) cx.1 cx.2.1 dL_table_154 (by decide) (fun _ => ?_) (fun h9 => absurd h9 (by decide))
    refine lv_iinc (v := nI (k + 1)) (lv' := [(5, .int (nI (k + 1))), (8, .int (nI 0)), (7, .int (nI r2)), (6, .int (nI r1)), (0, .ref b), (1, .int (nI a0)), (2, .ref (xa 0)), (3, .ref oa), (4, .ref cb)]) cx.1 cx.2.1 dL_table_159 hl (k := 3) rfl (nI_1 k) (by decide) rfl (fun ls hl => ?_)
    refine lv_goto (tgt := 55) cx.1 cx.2.1 dL_table_162 (by decide) ?_
    exact kk _ _ _ v2 hI hz2 (lv_sub hl [0, 4, 5, 6, 7, 8] rfl)
theorem table_loop (l : Launch) (cx : KC p c cL_table s args m RL D ca) (hml : c.maxLocals = 9) (hE : KE A s s.heap) (hlS : l.stackTraces = false) (hX : va_X b L xs s s.heap) (hbl : b < s.heap.size) (hbA : ¬ A b) (hL : L ≤ 260) (ha : a0 < 1000) (hr : meth.sig.returnType = some .boolean) (hlk : meth.locks = false) (hQ : ∀ H locs ls, va_S A s.heap H locs → W p l e RMT s m args below meth c H locs 131 2046 Q (F0 m 165 ls [])) :
    ∀ n k : Nat, k + n = 60 → ∀ (H : Heap) (locs : List Loc) (ls : Array Slot) (v : XS), KI D A (lw xa oa cb ca v (lO v) (lC v) []) s.heap H locs → zI (2 * k) v → lv_has ls 9 [(5, .int (nI k)), (0, .ref b), (1, .int (nI a0)), (2, .ref (xa 0)), (3, .ref oa), (4, .ref cb)] → W p l e RMT s m args below meth c H locs (11 + 2 * k) (1326 + 12 * k) Q (F0 m 55 ls []) := by
  intro n
  induction n with
  | zero =>
    intro k hk H locs ls v hI hz hl
    obtain rfl : k = 60 := by omega
    refine lv_iload cx.1 cx.2.1 dL_table_55 (lv_at hl 0 rfl) ?_
    refine lv_bipush (v := 60) cx.1 cx.2.1 dL_table_57 (by decide) ?_
    refine lv_icmp_ge (tgt := 165) cx.1 cx.2.1 dL_table_59 (by decide) (fun _ => ?_) (fun h9 => absurd (by decide : (60 : Int32) ≤ nI 60) h9)
    exact hQ H locs ls hI.2.2.1
  | succ n ih =>
    intro k hk H locs ls v hI hz hl
    refine table_turn l cx hml hE hlS hX hbl hbA hL ha (by omega) (by omega) (by omega) hI hz hl ?_
    intro H locs ls v hI hz hl
    refine W.widen (k := 11 + 2 * (k + 1)) (n := 1326 + 12 * (k + 1)) (by omega) (by omega) ?_
    exact ih (k + 1) (by omega) H locs ls v hI hz hl
end TABLE

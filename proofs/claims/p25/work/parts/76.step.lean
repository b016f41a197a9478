/-! MINE: the law's step. -/
theorem key_ex {X : Nat} (hX : X < 2 ^ 30) (t : Int32) : ∃ i : Nat, i < 40 ∧ (t = 0 → (nI X / 3) - (nI X / 3) / 40 * 40 = nI i) ∧ (¬ t = 0 → (nI X / 3) - (nI X / 3) / 12 * 12 = nI i) := by
  have e : nI X / 3 = nI (X / 3) := div_n (d := 3) hX (by decide) (by decide)
  have hb : X / 3 < 2 ^ 30 := by omega
  rw [e]
  by_cases h : t = 0
  · exact ⟨X / 3 % 40, by omega, fun _ => rem_n (d := 40) hb (by decide) (by decide), fun q => absurd h q⟩
  · exact ⟨X / 3 % 12, by omega, fun q => absurd q h, fun _ => rem_n (d := 12) hb (by decide) (by decide)⟩
theorem lag_ex {Y : Nat} (hY : Y < 2 ^ 30) (t : Int32) : ∃ g : Nat, g < 40 ∧ (t = 0 → (nI Y / 5) - (nI Y / 5) / 40 * 40 = nI g) ∧ (¬ t = 0 → (nI Y / 5) - (nI Y / 5) / 4 * 4 = nI g) := by
  have e : nI Y / 5 = nI (Y / 5) := div_n (d := 5) hY (by decide) (by decide)
  have hb : Y / 5 < 2 ^ 30 := by omega
  rw [e]
  by_cases h : t = 0
  · exact ⟨Y / 5 % 40, by omega, fun _ => rem_n (d := 40) hb (by decide) (by decide), fun q => absurd h q⟩
  · exact ⟨Y / 5 % 4, by omega, fun q => absurd q h, fun _ => rem_n (d := 4) hb (by decide) (by decide)⟩
theorem bb_is {Y : Nat} (hY : Y < 2 ^ 30) : (nI Y / 1000) - (nI Y / 1000) / 1000 * 1000 = nI (Y / 1000 % 1000) := by
  have e : nI Y / 1000 = nI (Y / 1000) := div_n (d := 1000) hY (by decide) (by decide)
  rw [e]
  exact rem_n (d := 1000) (by omega) (by decide) (by decide)
theorem ch_is {X : Nat} (hX : X < 2 ^ 30) : 1 + (nI X - nI X / 40 * 40) = nI (1 + X % 40) := by
  rw [← nI_add]
  exact congrArg (fun z => nI 1 + z) (rem_n (d := 40) hX (by decide) (by decide))
theorem pace_1 {c : Nat} (h1 : 1 ≤ c) (h2 : c ≤ 40) : xWithin (nI c) 1 40 = true := by
  unfold xWithin
  rw [decide_eq_false (fun q => by have := (nI_ltI (a := c) (b := 1) (by omega) (by decide)).mp q; omega), decide_eq_false (fun q => by have := (nI_ltI (a := 40) (b := c) (by decide) (by omega)).mp q; omega)]
  rfl
theorem pace_2 {g : Nat} (h : g ≤ 100) : xWithin (nI g) 0 100 = true := by
  unfold xWithin
  rw [decide_eq_false (nI_pos (by omega)), decide_eq_false (fun q => by have := (nI_ltI (a := 100) (b := g) (by decide) (by omega)).mp q; omega)]
  rfl
set_option maxHeartbeats 4000000 in
set_option maxRecDepth 100000 in
theorem kL_step (l : Launch) (D : va_G) (ca : Nat → ClassId) (ad : Nat → Nat) (oa cb : Nat) {v : XS} {n w xx yy : Nat} (h : zI n v) (hn : n + 2 ≤ 1000) (hXx : xx < 2 ^ 30) (hY : yy < 2 ^ 30) (hlS : l.stackTraces = false) : CG l yL_step cL_step 8 (some .boolean) { frames := 10, cells := 1, slots := 6, locals := 235 } D ca (lw ad oa cb ca v (lO v) (lC v) []) [.ref (ad 0), .int (nI w), .int (nI xx), .int (nI yy), .ref oa, .ref cb] (some (.int 1)) (LW (n + 2) ad oa cb ca) 1 6 := by
  refine CG.of (by decide) (Nat.le_of_ble_eq_true rfl) ?_
  intro p e s m below meth c0 A ls cx hml hr hlk hE hI hl
  have hl : lv_has ls 8 [(0, .ref (ad 0)), (1, .int (nI w)), (2, .int (nI xx)), (3, .int (nI yy)), (4, .ref oa), (5, .ref cb)] := hl
  have hI : KI D A (lw ad oa cb ca v (lO v) (lK (xp v) (xt v) (xq v) (xk v) (xl v) (xm v) (xc v)) []) s.heap s.heap [] := hI
  obtain ⟨i, hi, i1, i2⟩ := key_ex hXx (nI xx - nI xx / 3 * 3)
  obtain ⟨g, hg, g1, g2⟩ := lag_ex hY (nI yy - nI yy / 5 * 5)
  have h1 : xWithin (nI (1 + xx % 40)) 1 40 = true := pace_1 (by omega) (by omega)
  have h2 : xWithin (nI (yy % 21)) 0 100 = true := pace_2 (by omega)
  refine lv_iload_n cx.1 cx.2.1 dL_step_0 rfl (lv_at hl 1 rfl) ?_
  refine lv_bipush (v := 9) cx.1 cx.2.1 dL_step_1 (by decide) ?_
  refine lv_icmp_ge (tgt := 105) cx.1 cx.2.1 dL_step_3 (by decide) (fun c_1 => ?_) (fun c_1 => ?_)
  · refine lv_iload_n cx.1 cx.2.1 dL_step_105 rfl (lv_at hl 1 rfl) ?_
    refine lv_bipush (v := 14) cx.1 cx.2.1 dL_step_106 (by decide) ?_
    refine lv_icmp_ge (tgt := 140) cx.1 cx.2.1 dL_step_108 (by decide) (fun c_2 => ?_) (fun c_2 => ?_)
    · refine lv_iload_n cx.1 cx.2.1 dL_step_140 rfl (lv_at hl 1 rfl) ?_
      refine lv_bipush (v := 14) cx.1 cx.2.1 dL_step_141 (by decide) ?_
      refine lv_icmp_ne (tgt := 178) cx.1 cx.2.1 dL_step_143 (by decide) (fun c_3 => ?_) (fun c_3 => ?_)
      · refine lv_iload_n cx.1 cx.2.1 dL_step_178 rfl (lv_at hl 1 rfl) ?_
        refine lv_bipush (v := 17) cx.1 cx.2.1 dL_step_179 (by decide) ?_
        refine lv_icmp_ge (tgt := 189) cx.1 cx.2.1 dL_step_181 (by decide) (fun c_4 => ?_) (fun c_4 => ?_)
        · refine lv_iload_n cx.1 cx.2.1 dL_step_189 rfl (lv_at hl 1 rfl) ?_
          refine lv_bipush (v := 17) cx.1 cx.2.1 dL_step_190 (by decide) ?_
          refine lv_icmp_ne (tgt := 199) cx.1 cx.2.1 dL_step_192 (by decide) (fun c_5 => ?_) (fun c_5 => ?_)
          · refine lv_iload_n cx.1 cx.2.1 dL_step_199 rfl (lv_at hl 1 rfl) ?_
            refine lv_bipush (v := 18) cx.1 cx.2.1 dL_step_200 (by decide) ?_
            refine lv_icmp_ne (tgt := 210) cx.1 cx.2.1 dL_step_202 (by decide) (fun c_6 => ?_) (fun c_6 => ?_)
            · refine lv_iload_n cx.1 cx.2.1 dL_step_210 rfl (lv_at hl 1 rfl) ?_
              refine lv_bipush (v := 19) cx.1 cx.2.1 dL_step_211 (by decide) ?_
              refine lv_icmp_ne (tgt := 221) cx.1 cx.2.1 dL_step_213 (by decide) (fun c_7 => ?_) (fun c_7 => ?_)
              · refine lv_iload_n cx.1 cx.2.1 dL_step_221 rfl (lv_at hl 3 rfl) ?_
                refine lv_iconst (v := 3) cx.1 cx.2.1 dL_step_222 (by decide) ?_
                refine lv_irem cx.1 cx.2.1 dL_step_223 (by decide) ?_
                refine lv_if_ne (tgt := 232) cx.1 cx.2.1 dL_step_224 (by decide) (fun c_8 => ?_) (fun c_8 => ?_)
                · refine lv_iconst (v := 5) cx.1 cx.2.1 dL_step_232 (by decide) ?_
                  refine lv_istore (lv' := [(6, .int 5), (0, .ref (ad 0)), (1, .int (nI w)), (2, .int (nI xx)), (3, .int (nI yy)), (4, .ref oa), (5, .ref cb)]) cx.1 cx.2.1 dL_step_233 hl (by decide) rfl (fun ls hl => ?_)
                  refine lv_aload_n cx.1 cx.2.1 dL_step_235 rfl (lv_at hl 1 rfl) ?_
                  refine lv_iload cx.1 cx.2.1 dL_step_236 (lv_at hl 0 rfl) ?_
                  refine lv_iload_n cx.1 cx.2.1 dL_step_238 rfl (lv_at hl 3 rfl) ?_
                  refine lv_iload_n cx.1 cx.2.1 dL_step_239 rfl (lv_at hl 4 rfl) ?_
                  refine lv_aload cx.1 cx.2.1 dL_step_240 (lv_at hl 5 rfl) ?_
                  refine lv_aload cx.1 cx.2.1 dL_step_242 (lv_at hl 6 rfl) ?_
                  refine k_callG 6 [] [] cx hE (hl.1.trans hml.symm) (kL_changes5 l D ca ad oa cb h hn hXx hY hlS) hI rfl (fun w9 h9 => LW.ad h9) wk_400 wk_398 wk_399 wk_0 ⟨by decide, by decide, by decide +kernel⟩ rfl ⟨rfl, rfl⟩ ⟨Nat.le_of_ble_eq_true rfl, Nat.le_of_ble_eq_true rfl⟩ (Nat.le_of_ble_eq_true rfl) dL_step_244 ⟨Nat.le_of_ble_eq_true rfl, Nat.le_of_ble_eq_true rfl⟩ rfl (fun w9 hΦ H locs hI => ?_)
                  exact ke_g w9 [] cx hr hlk hI (Nat.le_of_ble_eq_true rfl) (Nat.le_of_ble_eq_true rfl) dL_step_247 rfl rfl hΦ
                · refine lv_bipush (v := 7) cx.1 cx.2.1 dL_step_227 (by decide) ?_
                  refine lv_goto (tgt := 233) cx.1 cx.2.1 dL_step_229 (by decide) ?_
                  refine lv_istore (lv' := [(6, .int 7), (0, .ref (ad 0)), (1, .int (nI w)), (2, .int (nI xx)), (3, .int (nI yy)), (4, .ref oa), (5, .ref cb)]) cx.1 cx.2.1 dL_step_233 hl (by decide) rfl (fun ls hl => ?_)
                  refine lv_aload_n cx.1 cx.2.1 dL_step_235 rfl (lv_at hl 1 rfl) ?_
                  refine lv_iload cx.1 cx.2.1 dL_step_236 (lv_at hl 0 rfl) ?_
                  refine lv_iload_n cx.1 cx.2.1 dL_step_238 rfl (lv_at hl 3 rfl) ?_
                  refine lv_iload_n cx.1 cx.2.1 dL_step_239 rfl (lv_at hl 4 rfl) ?_
                  refine lv_aload cx.1 cx.2.1 dL_step_240 (lv_at hl 5 rfl) ?_
                  refine lv_aload cx.1 cx.2.1 dL_step_242 (lv_at hl 6 rfl) ?_
                  refine k_callG 6 [] [] cx hE (hl.1.trans hml.symm) (kL_changes7 l D ca ad oa cb h hn hXx hY hlS) hI rfl (fun w9 h9 => LW.ad h9) wk_400 wk_398 wk_399 wk_0 ⟨by decide, by decide, by decide +kernel⟩ rfl ⟨rfl, rfl⟩ ⟨Nat.le_of_ble_eq_true rfl, Nat.le_of_ble_eq_true rfl⟩ (Nat.le_of_ble_eq_true rfl) dL_step_244 ⟨Nat.le_of_ble_eq_true rfl, Nat.le_of_ble_eq_true rfl⟩ rfl (fun w9 hΦ H locs hI => ?_)
                  exact ke_g w9 [] cx hr hlk hI (Nat.le_of_ble_eq_true rfl) (Nat.le_of_ble_eq_true rfl) dL_step_247 rfl rfl hΦ
              · refine lv_bipush (v := 8) cx.1 cx.2.1 dL_step_216 (by decide) ?_
                refine lv_goto (tgt := 233) cx.1 cx.2.1 dL_step_218 (by decide) ?_
                refine lv_istore (lv' := [(6, .int 8), (0, .ref (ad 0)), (1, .int (nI w)), (2, .int (nI xx)), (3, .int (nI yy)), (4, .ref oa), (5, .ref cb)]) cx.1 cx.2.1 dL_step_233 hl (by decide) rfl (fun ls hl => ?_)
                refine lv_aload_n cx.1 cx.2.1 dL_step_235 rfl (lv_at hl 1 rfl) ?_
                refine lv_iload cx.1 cx.2.1 dL_step_236 (lv_at hl 0 rfl) ?_
                refine lv_iload_n cx.1 cx.2.1 dL_step_238 rfl (lv_at hl 3 rfl) ?_
                refine lv_iload_n cx.1 cx.2.1 dL_step_239 rfl (lv_at hl 4 rfl) ?_
                refine lv_aload cx.1 cx.2.1 dL_step_240 (lv_at hl 5 rfl) ?_
                refine lv_aload cx.1 cx.2.1 dL_step_242 (lv_at hl 6 rfl) ?_
                refine k_callG 6 [] [] cx hE (hl.1.trans hml.symm) (kL_changes8 l D ca ad oa cb h hn hXx hY hlS) hI rfl (fun w9 h9 => LW.ad h9) wk_400 wk_398 wk_399 wk_0 ⟨by decide, by decide, by decide +kernel⟩ rfl ⟨rfl, rfl⟩ ⟨Nat.le_of_ble_eq_true rfl, Nat.le_of_ble_eq_true rfl⟩ (Nat.le_of_ble_eq_true rfl) dL_step_244 ⟨Nat.le_of_ble_eq_true rfl, Nat.le_of_ble_eq_true rfl⟩ rfl (fun w9 hΦ H locs hI => ?_)
                exact ke_g w9 [] cx hr hlk hI (Nat.le_of_ble_eq_true rfl) (Nat.le_of_ble_eq_true rfl) dL_step_247 rfl rfl hΦ
            · refine lv_bipush (v := 6) cx.1 cx.2.1 dL_step_205 (by decide) ?_
              refine lv_goto (tgt := 233) cx.1 cx.2.1 dL_step_207 (by decide) ?_
              refine lv_istore (lv' := [(6, .int 6), (0, .ref (ad 0)), (1, .int (nI w)), (2, .int (nI xx)), (3, .int (nI yy)), (4, .ref oa), (5, .ref cb)]) cx.1 cx.2.1 dL_step_233 hl (by decide) rfl (fun ls hl => ?_)
              refine lv_aload_n cx.1 cx.2.1 dL_step_235 rfl (lv_at hl 1 rfl) ?_
              refine lv_iload cx.1 cx.2.1 dL_step_236 (lv_at hl 0 rfl) ?_
              refine lv_iload_n cx.1 cx.2.1 dL_step_238 rfl (lv_at hl 3 rfl) ?_
              refine lv_iload_n cx.1 cx.2.1 dL_step_239 rfl (lv_at hl 4 rfl) ?_
              refine lv_aload cx.1 cx.2.1 dL_step_240 (lv_at hl 5 rfl) ?_
              refine lv_aload cx.1 cx.2.1 dL_step_242 (lv_at hl 6 rfl) ?_
              refine k_callG 6 [] [] cx hE (hl.1.trans hml.symm) (kL_changes6 l D ca ad oa cb h hn hXx hY hlS) hI rfl (fun w9 h9 => LW.ad h9) wk_400 wk_398 wk_399 wk_0 ⟨by decide, by decide, by decide +kernel⟩ rfl ⟨rfl, rfl⟩ ⟨Nat.le_of_ble_eq_true rfl, Nat.le_of_ble_eq_true rfl⟩ (Nat.le_of_ble_eq_true rfl) dL_step_244 ⟨Nat.le_of_ble_eq_true rfl, Nat.le_of_ble_eq_true rfl⟩ rfl (fun w9 hΦ H locs hI => ?_)
              exact ke_g w9 [] cx hr hlk hI (Nat.le_of_ble_eq_true rfl) (Nat.le_of_ble_eq_true rfl) dL_step_247 rfl rfl hΦ
          · refine lv_iconst (v := 5) cx.1 cx.2.1 dL_step_195 (by decide) ?_
            refine lv_goto (tgt := 233) cx.1 cx.2.1 dL_step_196 (by decide) ?_
            refine lv_istore (lv' := [(6, .int 5), (0, .ref (ad 0)), (1, .int (nI w)), (2, .int (nI xx)), (3, .int (nI yy)), (4, .ref oa), (5, .ref cb)]) cx.1 cx.2.1 dL_step_233 hl (by decide) rfl (fun ls hl => ?_)
            refine lv_aload_n cx.1 cx.2.1 dL_step_235 rfl (lv_at hl 1 rfl) ?_
            refine lv_iload cx.1 cx.2.1 dL_step_236 (lv_at hl 0 rfl) ?_
            refine lv_iload_n cx.1 cx.2.1 dL_step_238 rfl (lv_at hl 3 rfl) ?_
            refine lv_iload_n cx.1 cx.2.1 dL_step_239 rfl (lv_at hl 4 rfl) ?_
            refine lv_aload cx.1 cx.2.1 dL_step_240 (lv_at hl 5 rfl) ?_
            refine lv_aload cx.1 cx.2.1 dL_step_242 (lv_at hl 6 rfl) ?_
            refine k_callG 6 [] [] cx hE (hl.1.trans hml.symm) (kL_changes5 l D ca ad oa cb h hn hXx hY hlS) hI rfl (fun w9 h9 => LW.ad h9) wk_400 wk_398 wk_399 wk_0 ⟨by decide, by decide, by decide +kernel⟩ rfl ⟨rfl, rfl⟩ ⟨Nat.le_of_ble_eq_true rfl, Nat.le_of_ble_eq_true rfl⟩ (Nat.le_of_ble_eq_true rfl) dL_step_244 ⟨Nat.le_of_ble_eq_true rfl, Nat.le_of_ble_eq_true rfl⟩ rfl (fun w9 hΦ H locs hI => ?_)
            exact ke_g w9 [] cx hr hlk hI (Nat.le_of_ble_eq_true rfl) (Nat.le_of_ble_eq_true rfl) dL_step_247 rfl rfl hΦ
        · refine lv_bipush (v := 9) cx.1 cx.2.1 dL_step_184 (by decide) ?_
          refine lv_goto (tgt := 233) cx.1 cx.2.1 dL_step_186 (by decide) ?_
          refine lv_istore (lv' := [(6, .int 9), (0, .ref (ad 0)), (1, .int (nI w)), (2, .int (nI xx)), (3, .int (nI yy)), (4, .ref oa), (5, .ref cb)]) cx.1 cx.2.1 dL_step_233 hl (by decide) rfl (fun ls hl => ?_)
          refine lv_aload_n cx.1 cx.2.1 dL_step_235 rfl (lv_at hl 1 rfl) ?_
          refine lv_iload cx.1 cx.2.1 dL_step_236 (lv_at hl 0 rfl) ?_
          refine lv_iload_n cx.1 cx.2.1 dL_step_238 rfl (lv_at hl 3 rfl) ?_
          refine lv_iload_n cx.1 cx.2.1 dL_step_239 rfl (lv_at hl 4 rfl) ?_
          refine lv_aload cx.1 cx.2.1 dL_step_240 (lv_at hl 5 rfl) ?_
          refine lv_aload cx.1 cx.2.1 dL_step_242 (lv_at hl 6 rfl) ?_
          refine k_callG 6 [] [] cx hE (hl.1.trans hml.symm) (kL_changes9 l D ca ad oa cb h hn hXx hY hlS) hI rfl (fun w9 h9 => LW.ad h9) wk_400 wk_398 wk_399 wk_0 ⟨by decide, by decide, by decide +kernel⟩ rfl ⟨rfl, rfl⟩ ⟨Nat.le_of_ble_eq_true rfl, Nat.le_of_ble_eq_true rfl⟩ (Nat.le_of_ble_eq_true rfl) dL_step_244 ⟨Nat.le_of_ble_eq_true rfl, Nat.le_of_ble_eq_true rfl⟩ rfl (fun w9 hΦ H locs hI => ?_)
          exact ke_g w9 [] cx hr hlk hI (Nat.le_of_ble_eq_true rfl) (Nat.le_of_ble_eq_true rfl) dL_step_247 rfl rfl hΦ
      · refine lv_aload cx.1 cx.2.1 dL_step_146 (lv_at hl 5 rfl) ?_
        refine lv_iconst (v := 3) cx.1 cx.2.1 dL_step_148 (by decide) ?_
        refine lv_iconst (v := 1) cx.1 cx.2.1 dL_step_149 (by decide) ?_
        refine lv_iload_n cx.1 cx.2.1 dL_step_150 rfl (lv_at hl 2 rfl) ?_
        refine lv_bipush (v := 40) cx.1 cx.2.1 dL_step_151 (by decide) ?_
        refine lv_irem cx.1 cx.2.1 dL_step_153 (by decide) ?_
        refine lv_iadd cx.1 cx.2.1 dL_step_154 ?_
        refine k_top (y := nI (1 + xx % 40)) (ch_is hXx) ?_
        refine ls_c3 cx hI dL_step_155 (fun H locs hI => ?_)
        refine lv_aload cx.1 cx.2.1 dL_step_156 (lv_at hl 5 rfl) ?_
        refine lv_iconst (v := 4) cx.1 cx.2.1 dL_step_158 (by decide) ?_
        refine lv_iload_n cx.1 cx.2.1 dL_step_159 rfl (lv_at hl 3 rfl) ?_
        refine lv_bipush (v := 21) cx.1 cx.2.1 dL_step_160 (by decide) ?_
        refine lv_irem cx.1 cx.2.1 dL_step_162 (by decide) ?_
        refine k_top (y := nI (yy % 21)) (rem_n (d := 21) hY (by decide) (by decide)) ?_
        refine ls_c4 cx hI dL_step_163 (fun H locs hI => ?_)
        refine lv_aload_n cx.1 cx.2.1 dL_step_164 rfl (lv_at hl 0 rfl) ?_
        refine lv_aload cx.1 cx.2.1 dL_step_165 (lv_at hl 5 rfl) ?_
        refine lv_iconst (v := 3) cx.1 cx.2.1 dL_step_167 (by decide) ?_
        refine lr_c cx hI (vp_in_nI (n := 3) (by decide) (by decide)) dL_step_168 ?_
        refine k_top (y := nI (1 + xx % 40)) rfl ?_
        refine lv_aload cx.1 cx.2.1 dL_step_169 (lv_at hl 5 rfl) ?_
        refine lv_iconst (v := 4) cx.1 cx.2.1 dL_step_171 (by decide) ?_
        refine lr_c cx hI (vp_in_nI (n := 4) (by decide) (by decide)) dL_step_172 ?_
        refine k_top (y := nI (yy % 21)) rfl ?_
        refine lc_v 2 cx (hl.1.trans hml.symm) (kS_setPace l D ca ad v (nI (1 + xx % 40)) (nI (yy % 21)) h1 h2) hI wk_396 wk_393 wk_394 wk_395 ⟨rfl, by decide +kernel⟩ rfl ⟨rfl, rfl⟩ ⟨Nat.le_of_ble_eq_true rfl, Nat.le_of_ble_eq_true rfl⟩ (Nat.le_of_ble_eq_true rfl) dL_step_173 ⟨Nat.le_of_ble_eq_true rfl, Nat.le_of_ble_eq_true rfl⟩ rfl (fun H locs hI => ?_)
        refine lv_iconst (v := 1) cx.1 cx.2.1 dL_step_176 (by decide) ?_
        exact ke_g (lw ad oa cb ca (xUl (xUk v (nI (1 + xx % 40))) (nI (yy % 21))) (lO v) (lK (xp v) (xt v) (xq v) (nI (1 + xx % 40)) (nI (yy % 21)) (xm v) (xc v)) []) [] cx hr hlk hI (Nat.le_of_ble_eq_true rfl) (Nat.le_of_ble_eq_true rfl) dL_step_177 rfl rfl ⟨_, (zI_pace h (ch := 1 + xx % 40) (by omega) (by omega) (nI (yy % 21))).up (by omega), lw_eq rfl rfl⟩
    · refine lv_aload_n cx.1 cx.2.1 dL_step_111 rfl (lv_at hl 0 rfl) ?_
      refine lv_iload_n cx.1 cx.2.1 dL_step_112 rfl (lv_at hl 3 rfl) ?_
      refine lv_iconst (v := 5) cx.1 cx.2.1 dL_step_113 (by decide) ?_
      refine lv_irem cx.1 cx.2.1 dL_step_114 (by decide) ?_
      refine k_join (D := D) (A := A) 132 (lw ad oa cb ca v (lO v) (lK (xp v) (xt v) (xq v) (xk v) (xl v) (xm v) (xc v)) []) [.int (nI g), .ref (ad 0)] (fun H locs hI => ?_) (fun hj132 => ?_)
      · refine lv_aload cx.1 cx.2.1 dL_step_132 (lv_at hl 4 rfl) ?_
        refine lv_aload cx.1 cx.2.1 dL_step_134 (lv_at hl 5 rfl) ?_
        refine k_callG 4 [] [] cx hE (hl.1.trans hml.symm) (kL_ticks l D ca ad oa cb h hn hg hlS) hI rfl (fun w9 h9 => LW.ad h9) wk_385 wk_383 wk_384 wk_0 ⟨by decide, by decide, by decide +kernel⟩ rfl ⟨rfl, rfl⟩ ⟨Nat.le_of_ble_eq_true rfl, Nat.le_of_ble_eq_true rfl⟩ (Nat.le_of_ble_eq_true rfl) dL_step_136 ⟨Nat.le_of_ble_eq_true rfl, Nat.le_of_ble_eq_true rfl⟩ rfl (fun w9 hΦ H locs hI => ?_)
        exact ke_g w9 [] cx hr hlk hI (Nat.le_of_ble_eq_true rfl) (Nat.le_of_ble_eq_true rfl) dL_step_139 rfl rfl hΦ
      ·
        refine lv_if_ne (tgt := 127) cx.1 cx.2.1 dL_step_115 (by decide) (fun c_9 => ?_) (fun c_9 => ?_)
        · refine lv_iload_n cx.1 cx.2.1 dL_step_127 rfl (lv_at hl 3 rfl) ?_
          refine lv_iconst (v := 5) cx.1 cx.2.1 dL_step_128 (by decide) ?_
          refine lv_idiv cx.1 cx.2.1 dL_step_129 (by decide) ?_
          refine lv_iconst (v := 4) cx.1 cx.2.1 dL_step_130 (by decide) ?_
          refine lv_irem cx.1 cx.2.1 dL_step_131 (by decide) ?_
          exact k_top (by first | exact g1 c_9 | exact g2 c_9) (hj132 _ _ hI)
        · refine lv_iload_n cx.1 cx.2.1 dL_step_118 rfl (lv_at hl 3 rfl) ?_
          refine lv_iconst (v := 5) cx.1 cx.2.1 dL_step_119 (by decide) ?_
          refine lv_idiv cx.1 cx.2.1 dL_step_120 (by decide) ?_
          refine lv_bipush (v := 40) cx.1 cx.2.1 dL_step_121 (by decide) ?_
          refine lv_irem cx.1 cx.2.1 dL_step_123 (by decide) ?_
          refine lv_goto (tgt := 132) cx.1 cx.2.1 dL_step_124 (by decide) ?_
          exact k_top (by first | exact g1 c_9 | exact g2 c_9) (hj132 _ _ hI)
  · refine lv_iload_n cx.1 cx.2.1 dL_step_6 rfl (lv_at hl 2 rfl) ?_
    refine lv_iconst (v := 3) cx.1 cx.2.1 dL_step_7 (by decide) ?_
    refine lv_irem cx.1 cx.2.1 dL_step_8 (by decide) ?_
    refine k_join (D := D) (A := A) 27 (lw ad oa cb ca v (lO v) (lK (xp v) (xt v) (xq v) (xk v) (xl v) (xm v) (xc v)) []) [.int (nI i)] (fun H locs hI => ?_) (fun hj27 => ?_)
    · refine lv_istore (lv' := [(6, .int (nI i)), (0, .ref (ad 0)), (1, .int (nI w)), (2, .int (nI xx)), (3, .int (nI yy)), (4, .ref oa), (5, .ref cb)]) cx.1 cx.2.1 dL_step_27 hl (by decide) rfl (fun ls hl => ?_)
      refine lv_iload_n cx.1 cx.2.1 dL_step_29 rfl (lv_at hl 2 rfl) ?_
      refine lv_iconst (v := 4) cx.1 cx.2.1 dL_step_30 (by decide) ?_
      refine lv_icmp_ge (tgt := 38) cx.1 cx.2.1 dL_step_31 (by decide) (fun c_10 => ?_) (fun c_10 => ?_)
      · refine lv_iload_n cx.1 cx.2.1 dL_step_38 rfl (lv_at hl 2 rfl) ?_
        refine lv_bipush (v := 6) cx.1 cx.2.1 dL_step_39 (by decide) ?_
        refine lv_icmp_ge (tgt := 48) cx.1 cx.2.1 dL_step_41 (by decide) (fun c_11 => ?_) (fun c_11 => ?_)
        · refine lv_iload_n cx.1 cx.2.1 dL_step_48 rfl (lv_at hl 2 rfl) ?_
          refine lv_bipush (v := 8) cx.1 cx.2.1 dL_step_49 (by decide) ?_
          refine lv_icmp_ge (tgt := 58) cx.1 cx.2.1 dL_step_51 (by decide) (fun c_12 => ?_) (fun c_12 => ?_)
          · refine lv_iconst (v := 3) cx.1 cx.2.1 dL_step_58 (by decide) ?_
            refine lv_istore (lv' := [(7, .int 3), (6, .int (nI i)), (0, .ref (ad 0)), (1, .int (nI w)), (2, .int (nI xx)), (3, .int (nI yy)), (4, .ref oa), (5, .ref cb)]) cx.1 cx.2.1 dL_step_59 hl (by decide) rfl (fun ls hl => ?_)
            refine lv_aload_n cx.1 cx.2.1 dL_step_61 rfl (lv_at hl 2 rfl) ?_
            refine lv_iload cx.1 cx.2.1 dL_step_62 (lv_at hl 0 rfl) ?_
            refine lv_iload cx.1 cx.2.1 dL_step_64 (lv_at hl 1 rfl) ?_
            refine lv_iload_n cx.1 cx.2.1 dL_step_66 rfl (lv_at hl 5 rfl) ?_
            refine lv_iload cx.1 cx.2.1 dL_step_67 (lv_at hl 0 rfl) ?_
            refine lv_iconst (v := 2) cx.1 cx.2.1 dL_step_69 (by decide) ?_
            refine lv_icmp_ne (tgt := 84) cx.1 cx.2.1 dL_step_70 (by decide) (fun _ => ?_) (fun h9 => absurd h9 (by decide))
            refine lv_sipush (v := 1000) cx.1 cx.2.1 dL_step_84 (by decide) ?_
            refine lv_irem cx.1 cx.2.1 dL_step_87 (by decide) ?_
            refine k_top (y := nI (yy % 1000)) (rem_n (d := 1000) hY (by decide) (by decide)) ?_
            refine lv_iload_n cx.1 cx.2.1 dL_step_88 rfl (lv_at hl 5 rfl) ?_
            refine lv_sipush (v := 1000) cx.1 cx.2.1 dL_step_89 (by decide) ?_
            refine lv_idiv cx.1 cx.2.1 dL_step_92 (by decide) ?_
            refine lv_sipush (v := 1000) cx.1 cx.2.1 dL_step_93 (by decide) ?_
            refine lv_irem cx.1 cx.2.1 dL_step_96 (by decide) ?_
            refine k_top (y := nI (yy / 1000 % 1000)) (bb_is hY) ?_
            refine lv_aload cx.1 cx.2.1 dL_step_97 (lv_at hl 6 rfl) ?_
            refine lv_aload cx.1 cx.2.1 dL_step_99 (lv_at hl 7 rfl) ?_
            refine k_callG 7 [] [] cx hE (hl.1.trans hml.symm) (kL_client3 l D ca ad oa cb (x := yy % 1000) (y := yy / 1000 % 1000) h hn hi (by omega) (by omega) hlS) hI rfl (fun w9 h9 => LW.ad h9) wk_79 wk_77 wk_78 wk_0 ⟨by decide, by decide, by decide +kernel⟩ rfl ⟨rfl, rfl⟩ ⟨Nat.le_of_ble_eq_true rfl, Nat.le_of_ble_eq_true rfl⟩ (Nat.le_of_ble_eq_true rfl) dL_step_101 ⟨Nat.le_of_ble_eq_true rfl, Nat.le_of_ble_eq_true rfl⟩ rfl (fun w9 hΦ H locs hI => ?_)
            exact ke_g w9 [] cx hr hlk hI (Nat.le_of_ble_eq_true rfl) (Nat.le_of_ble_eq_true rfl) dL_step_104 rfl rfl hΦ
          · refine lv_iconst (v := 2) cx.1 cx.2.1 dL_step_54 (by decide) ?_
            refine lv_goto (tgt := 59) cx.1 cx.2.1 dL_step_55 (by decide) ?_
            refine lv_istore (lv' := [(7, .int 2), (6, .int (nI i)), (0, .ref (ad 0)), (1, .int (nI w)), (2, .int (nI xx)), (3, .int (nI yy)), (4, .ref oa), (5, .ref cb)]) cx.1 cx.2.1 dL_step_59 hl (by decide) rfl (fun ls hl => ?_)
            refine lv_aload_n cx.1 cx.2.1 dL_step_61 rfl (lv_at hl 2 rfl) ?_
            refine lv_iload cx.1 cx.2.1 dL_step_62 (lv_at hl 0 rfl) ?_
            refine lv_iload cx.1 cx.2.1 dL_step_64 (lv_at hl 1 rfl) ?_
            refine lv_iload_n cx.1 cx.2.1 dL_step_66 rfl (lv_at hl 5 rfl) ?_
            refine lv_iload cx.1 cx.2.1 dL_step_67 (lv_at hl 0 rfl) ?_
            refine lv_iconst (v := 2) cx.1 cx.2.1 dL_step_69 (by decide) ?_
            refine lv_icmp_ne (tgt := 84) cx.1 cx.2.1 dL_step_70 (by decide) (fun h9 => absurd (by decide) h9) (fun _ => ?_)
            refine lv_iload_n cx.1 cx.2.1 dL_step_73 rfl (lv_at hl 4 rfl) ?_
            refine lv_iconst (v := 2) cx.1 cx.2.1 dL_step_74 (by decide) ?_
            refine lv_irem cx.1 cx.2.1 dL_step_75 (by decide) ?_
            refine lv_if_ne (tgt := 84) cx.1 cx.2.1 dL_step_76 (by decide) (fun c_13 => ?_) (fun c_13 => ?_)
            · refine lv_sipush (v := 1000) cx.1 cx.2.1 dL_step_84 (by decide) ?_
              refine lv_irem cx.1 cx.2.1 dL_step_87 (by decide) ?_
              refine k_top (y := nI (yy % 1000)) (rem_n (d := 1000) hY (by decide) (by decide)) ?_
              refine lv_iload_n cx.1 cx.2.1 dL_step_88 rfl (lv_at hl 5 rfl) ?_
              refine lv_sipush (v := 1000) cx.1 cx.2.1 dL_step_89 (by decide) ?_
              refine lv_idiv cx.1 cx.2.1 dL_step_92 (by decide) ?_
              refine lv_sipush (v := 1000) cx.1 cx.2.1 dL_step_93 (by decide) ?_
              refine lv_irem cx.1 cx.2.1 dL_step_96 (by decide) ?_
              refine k_top (y := nI (yy / 1000 % 1000)) (bb_is hY) ?_
              refine lv_aload cx.1 cx.2.1 dL_step_97 (lv_at hl 6 rfl) ?_
              refine lv_aload cx.1 cx.2.1 dL_step_99 (lv_at hl 7 rfl) ?_
              refine k_callG 7 [] [] cx hE (hl.1.trans hml.symm) (kL_client2 l D ca ad oa cb (x := yy % 1000) (y := yy / 1000 % 1000) h hn hi (by omega) (by omega) hlS) hI rfl (fun w9 h9 => LW.ad h9) wk_79 wk_77 wk_78 wk_0 ⟨by decide, by decide, by decide +kernel⟩ rfl ⟨rfl, rfl⟩ ⟨Nat.le_of_ble_eq_true rfl, Nat.le_of_ble_eq_true rfl⟩ (Nat.le_of_ble_eq_true rfl) dL_step_101 ⟨Nat.le_of_ble_eq_true rfl, Nat.le_of_ble_eq_true rfl⟩ rfl (fun w9 hΦ H locs hI => ?_)
              exact ke_g w9 [] cx hr hlk hI (Nat.le_of_ble_eq_true rfl) (Nat.le_of_ble_eq_true rfl) dL_step_104 rfl rfl hΦ
            · refine lv_bipush (v := 12) cx.1 cx.2.1 dL_step_79 (by decide) ?_
              refine lv_goto (tgt := 87) cx.1 cx.2.1 dL_step_81 (by decide) ?_
              refine lv_irem cx.1 cx.2.1 dL_step_87 (by decide) ?_
              refine k_top (y := nI (yy % 12)) (rem_n (d := 12) hY (by decide) (by decide)) ?_
              refine lv_iload_n cx.1 cx.2.1 dL_step_88 rfl (lv_at hl 5 rfl) ?_
              refine lv_sipush (v := 1000) cx.1 cx.2.1 dL_step_89 (by decide) ?_
              refine lv_idiv cx.1 cx.2.1 dL_step_92 (by decide) ?_
              refine lv_sipush (v := 1000) cx.1 cx.2.1 dL_step_93 (by decide) ?_
              refine lv_irem cx.1 cx.2.1 dL_step_96 (by decide) ?_
              refine k_top (y := nI (yy / 1000 % 1000)) (bb_is hY) ?_
              refine lv_aload cx.1 cx.2.1 dL_step_97 (lv_at hl 6 rfl) ?_
              refine lv_aload cx.1 cx.2.1 dL_step_99 (lv_at hl 7 rfl) ?_
              refine k_callG 7 [] [] cx hE (hl.1.trans hml.symm) (kL_client2 l D ca ad oa cb (x := yy % 12) (y := yy / 1000 % 1000) h hn hi (by omega) (by omega) hlS) hI rfl (fun w9 h9 => LW.ad h9) wk_79 wk_77 wk_78 wk_0 ⟨by decide, by decide, by decide +kernel⟩ rfl ⟨rfl, rfl⟩ ⟨Nat.le_of_ble_eq_true rfl, Nat.le_of_ble_eq_true rfl⟩ (Nat.le_of_ble_eq_true rfl) dL_step_101 ⟨Nat.le_of_ble_eq_true rfl, Nat.le_of_ble_eq_true rfl⟩ rfl (fun w9 hΦ H locs hI => ?_)
              exact ke_g w9 [] cx hr hlk hI (Nat.le_of_ble_eq_true rfl) (Nat.le_of_ble_eq_true rfl) dL_step_104 rfl rfl hΦ
        · refine lv_iconst (v := 1) cx.1 cx.2.1 dL_step_44 (by decide) ?_
          refine lv_goto (tgt := 59) cx.1 cx.2.1 dL_step_45 (by decide) ?_
          refine lv_istore (lv' := [(7, .int 1), (6, .int (nI i)), (0, .ref (ad 0)), (1, .int (nI w)), (2, .int (nI xx)), (3, .int (nI yy)), (4, .ref oa), (5, .ref cb)]) cx.1 cx.2.1 dL_step_59 hl (by decide) rfl (fun ls hl => ?_)
          refine lv_aload_n cx.1 cx.2.1 dL_step_61 rfl (lv_at hl 2 rfl) ?_
          refine lv_iload cx.1 cx.2.1 dL_step_62 (lv_at hl 0 rfl) ?_
          refine lv_iload cx.1 cx.2.1 dL_step_64 (lv_at hl 1 rfl) ?_
          refine lv_iload_n cx.1 cx.2.1 dL_step_66 rfl (lv_at hl 5 rfl) ?_
          refine lv_iload cx.1 cx.2.1 dL_step_67 (lv_at hl 0 rfl) ?_
          refine lv_iconst (v := 2) cx.1 cx.2.1 dL_step_69 (by decide) ?_
          refine lv_icmp_ne (tgt := 84) cx.1 cx.2.1 dL_step_70 (by decide) (fun _ => ?_) (fun h9 => absurd h9 (by decide))
          refine lv_sipush (v := 1000) cx.1 cx.2.1 dL_step_84 (by decide) ?_
          refine lv_irem cx.1 cx.2.1 dL_step_87 (by decide) ?_
          refine k_top (y := nI (yy % 1000)) (rem_n (d := 1000) hY (by decide) (by decide)) ?_
          refine lv_iload_n cx.1 cx.2.1 dL_step_88 rfl (lv_at hl 5 rfl) ?_
          refine lv_sipush (v := 1000) cx.1 cx.2.1 dL_step_89 (by decide) ?_
          refine lv_idiv cx.1 cx.2.1 dL_step_92 (by decide) ?_
          refine lv_sipush (v := 1000) cx.1 cx.2.1 dL_step_93 (by decide) ?_
          refine lv_irem cx.1 cx.2.1 dL_step_96 (by decide) ?_
          refine k_top (y := nI (yy / 1000 % 1000)) (bb_is hY) ?_
          refine lv_aload cx.1 cx.2.1 dL_step_97 (lv_at hl 6 rfl) ?_
          refine lv_aload cx.1 cx.2.1 dL_step_99 (lv_at hl 7 rfl) ?_
          refine k_callG 7 [] [] cx hE (hl.1.trans hml.symm) (kL_client1 l D ca ad oa cb (x := yy % 1000) (y := yy / 1000 % 1000) h hn hi (by omega) (by omega) hlS) hI rfl (fun w9 h9 => LW.ad h9) wk_79 wk_77 wk_78 wk_0 ⟨by decide, by decide, by decide +kernel⟩ rfl ⟨rfl, rfl⟩ ⟨Nat.le_of_ble_eq_true rfl, Nat.le_of_ble_eq_true rfl⟩ (Nat.le_of_ble_eq_true rfl) dL_step_101 ⟨Nat.le_of_ble_eq_true rfl, Nat.le_of_ble_eq_true rfl⟩ rfl (fun w9 hΦ H locs hI => ?_)
          exact ke_g w9 [] cx hr hlk hI (Nat.le_of_ble_eq_true rfl) (Nat.le_of_ble_eq_true rfl) dL_step_104 rfl rfl hΦ
      · refine lv_iconst (v := 0) cx.1 cx.2.1 dL_step_34 (by decide) ?_
        refine lv_goto (tgt := 59) cx.1 cx.2.1 dL_step_35 (by decide) ?_
        refine lv_istore (lv' := [(7, .int 0), (6, .int (nI i)), (0, .ref (ad 0)), (1, .int (nI w)), (2, .int (nI xx)), (3, .int (nI yy)), (4, .ref oa), (5, .ref cb)]) cx.1 cx.2.1 dL_step_59 hl (by decide) rfl (fun ls hl => ?_)
        refine lv_aload_n cx.1 cx.2.1 dL_step_61 rfl (lv_at hl 2 rfl) ?_
        refine lv_iload cx.1 cx.2.1 dL_step_62 (lv_at hl 0 rfl) ?_
        refine lv_iload cx.1 cx.2.1 dL_step_64 (lv_at hl 1 rfl) ?_
        refine lv_iload_n cx.1 cx.2.1 dL_step_66 rfl (lv_at hl 5 rfl) ?_
        refine lv_iload cx.1 cx.2.1 dL_step_67 (lv_at hl 0 rfl) ?_
        refine lv_iconst (v := 2) cx.1 cx.2.1 dL_step_69 (by decide) ?_
        refine lv_icmp_ne (tgt := 84) cx.1 cx.2.1 dL_step_70 (by decide) (fun _ => ?_) (fun h9 => absurd h9 (by decide))
        refine lv_sipush (v := 1000) cx.1 cx.2.1 dL_step_84 (by decide) ?_
        refine lv_irem cx.1 cx.2.1 dL_step_87 (by decide) ?_
        refine k_top (y := nI (yy % 1000)) (rem_n (d := 1000) hY (by decide) (by decide)) ?_
        refine lv_iload_n cx.1 cx.2.1 dL_step_88 rfl (lv_at hl 5 rfl) ?_
        refine lv_sipush (v := 1000) cx.1 cx.2.1 dL_step_89 (by decide) ?_
        refine lv_idiv cx.1 cx.2.1 dL_step_92 (by decide) ?_
        refine lv_sipush (v := 1000) cx.1 cx.2.1 dL_step_93 (by decide) ?_
        refine lv_irem cx.1 cx.2.1 dL_step_96 (by decide) ?_
        refine k_top (y := nI (yy / 1000 % 1000)) (bb_is hY) ?_
        refine lv_aload cx.1 cx.2.1 dL_step_97 (lv_at hl 6 rfl) ?_
        refine lv_aload cx.1 cx.2.1 dL_step_99 (lv_at hl 7 rfl) ?_
        refine k_callG 7 [] [] cx hE (hl.1.trans hml.symm) (kL_client0 l D ca ad oa cb (x := yy % 1000) (y := yy / 1000 % 1000) h hn hi (by omega) (by omega) hlS) hI rfl (fun w9 h9 => LW.ad h9) wk_79 wk_77 wk_78 wk_0 ⟨by decide, by decide, by decide +kernel⟩ rfl ⟨rfl, rfl⟩ ⟨Nat.le_of_ble_eq_true rfl, Nat.le_of_ble_eq_true rfl⟩ (Nat.le_of_ble_eq_true rfl) dL_step_101 ⟨Nat.le_of_ble_eq_true rfl, Nat.le_of_ble_eq_true rfl⟩ rfl (fun w9 hΦ H locs hI => ?_)
        exact ke_g w9 [] cx hr hlk hI (Nat.le_of_ble_eq_true rfl) (Nat.le_of_ble_eq_true rfl) dL_step_104 rfl rfl hΦ
    ·
      refine lv_if_ne (tgt := 21) cx.1 cx.2.1 dL_step_9 (by decide) (fun c_14 => ?_) (fun c_14 => ?_)
      · refine lv_iload_n cx.1 cx.2.1 dL_step_21 rfl (lv_at hl 2 rfl) ?_
        refine lv_iconst (v := 3) cx.1 cx.2.1 dL_step_22 (by decide) ?_
        refine lv_idiv cx.1 cx.2.1 dL_step_23 (by decide) ?_
        refine lv_bipush (v := 12) cx.1 cx.2.1 dL_step_24 (by decide) ?_
        refine lv_irem cx.1 cx.2.1 dL_step_26 (by decide) ?_
        exact k_top (by first | exact i1 c_14 | exact i2 c_14) (hj27 _ _ hI)
      · refine lv_iload_n cx.1 cx.2.1 dL_step_12 rfl (lv_at hl 2 rfl) ?_
        refine lv_iconst (v := 3) cx.1 cx.2.1 dL_step_13 (by decide) ?_
        refine lv_idiv cx.1 cx.2.1 dL_step_14 (by decide) ?_
        refine lv_bipush (v := 40) cx.1 cx.2.1 dL_step_15 (by decide) ?_
        refine lv_irem cx.1 cx.2.1 dL_step_17 (by decide) ?_
        refine lv_goto (tgt := 27) cx.1 cx.2.1 dL_step_18 (by decide) ?_
        exact k_top (by first | exact i1 c_14 | exact i2 c_14) (hj27 _ _ hI)

set_option maxHeartbeats 4000000 in
set_option maxRecDepth 100000 in
theorem ka_insert (l : Launch) {p : Program} {e : Env} {s : State} {m : MethodId} {below : List Frame} {meth : Method} {c : Code} {H : Heap} {locs : List Loc} {cells slots : Nat} {Q : State → Prop} {ls : Array Slot} {D : va_G} {ca : Nat → ClassId} {xa ma : Nat → Nat} {A : Nat → Prop} {oa b L k : Nat} {xs : Nat → Int32} {f : Nat → Int64} {v : XS} {w : MS} (cx : KC p c code s #[Value.ref b] m RL D ca) (hml : c.maxLocals = 7) (hE : KE A s s.heap) (hlS : l.stackTraces = false) (hX : va_X b L xs s s.heap) (hbl : b < s.heap.size) (hbA : ¬ A b) (hL : L ≤ 2048) (hi : 4 * k + 4 ≤ L) (hf : cells + 1 ≤ room_1.cells ∧ slots + 6 ≤ room_1.slots) (hI : KI D A (ow oa ca f ++ (xw xa ca v ++ mw ma ca w)) s.heap H locs) (hS : SR (2 * k) v w) (hl : lv_has ls 7 [(4, .int (nI (4 * k))), (0, .ref b), (1, .ref (xa 0)), (2, .ref (ma 0)), (3, .ref oa)]) (kk : LBk l p e s m below meth c D ca xa ma A oa b k (cells + 1) (slots + 6) Q) : W p l e room_1 s m #[Value.ref b] below meth c H locs cells slots Q (F0 m 140 ls []) := by
  refine lv_aload_n cx.1 cx.2.1 dL_law_140 rfl (lv_at hl 2 rfl) ?_
  refine lv_aload_n cx.1 cx.2.1 dL_law_141 rfl (lv_at hl 1 rfl) ?_
  refine lv_iload cx.1 cx.2.1 dL_law_142 (lv_at hl 0 rfl) ?_
  refine lv_iconst (v := 1) cx.1 cx.2.1 dL_law_144 (by decide) ?_
  refine lv_iadd cx.1 cx.2.1 dL_law_145 ?_
  refine k_sld 1 cx hX hbl hbA hI rfl (by omega) hL dL_law_146 ?_
  refine lv_aload_n cx.1 cx.2.1 dL_law_147 rfl (lv_at hl 1 rfl) ?_
  refine lv_iload cx.1 cx.2.1 dL_law_148 (lv_at hl 0 rfl) ?_
  refine lv_iconst (v := 2) cx.1 cx.2.1 dL_law_150 (by decide) ?_
  refine lv_iadd cx.1 cx.2.1 dL_law_151 ?_
  refine k_sld 2 cx hX hbl hbA hI rfl (by omega) hL dL_law_152 ?_
  refine lv_aload_n cx.1 cx.2.1 dL_law_153 rfl (lv_at hl 1 rfl) ?_
  refine lv_iload cx.1 cx.2.1 dL_law_154 (lv_at hl 0 rfl) ?_
  refine lv_iconst (v := 3) cx.1 cx.2.1 dL_law_156 (by decide) ?_
  refine lv_iadd cx.1 cx.2.1 dL_law_157 ?_
  refine k_sld 3 cx hX hbl hbA hI rfl (by omega) hL dL_law_158 ?_
  refine k_callH 4 (ow oa ca f) (mw ma ca w) cx hE (hl.1.trans hml.symm) (kL_insert l D ca xa v (xs (4 * k + 1)) (xs (4 * k + 2)) (xs (4 * k + 3)) (SR_mc hS (by omega)).2.2 hlS) hI rfl (W1 := (ow oa ca f ++ (xw xa ca (kSt (xfInsert v (xs (4 * k + 1)) (xs (4 * k + 2)) (xs (4 * k + 3))) v (xFollow (xPut v (xs (4 * k + 1)) (xs (4 * k + 2)) (xs (4 * k + 3))) (xs (4 * k + 1)))) ++ mw ma ca w))) rfl xw_ad wk_130 wk_128 wk_129 wk_0 ⟨by decide, by decide, by decide +kernel⟩ rfl ⟨rfl, rfl⟩ ⟨Nat.le_of_ble_eq_true rfl, Nat.le_of_ble_eq_true rfl⟩ (Nat.le_of_ble_eq_true rfl) dL_law_159 hf rfl (fun H locs hI => ?_)
  refine lv_istore (lv' := [(5, .int (nI (xfInsert v (xs (4 * k + 1)) (xs (4 * k + 2)) (xs (4 * k + 3))))), (4, .int (nI (4 * k))), (0, .ref b), (1, .ref (xa 0)), (2, .ref (ma 0)), (3, .ref oa)]) cx.1 cx.2.1 dL_law_162 hl (by decide) rfl (fun ls hl => ?_)
  refine lv_aload_n cx.1 cx.2.1 dL_law_164 rfl (lv_at hl 4 rfl) ?_
  refine lv_aload_n cx.1 cx.2.1 dL_law_165 rfl (lv_at hl 2 rfl) ?_
  refine lv_iload cx.1 cx.2.1 dL_law_166 (lv_at hl 1 rfl) ?_
  refine lv_iconst (v := 1) cx.1 cx.2.1 dL_law_168 (by decide) ?_
  refine lv_iadd cx.1 cx.2.1 dL_law_169 ?_
  refine k_sld 1 cx hX hbl hbA hI rfl (by omega) hL dL_law_170 ?_
  refine lv_aload_n cx.1 cx.2.1 dL_law_171 rfl (lv_at hl 2 rfl) ?_
  refine lv_iload cx.1 cx.2.1 dL_law_172 (lv_at hl 1 rfl) ?_
  refine lv_iconst (v := 2) cx.1 cx.2.1 dL_law_174 (by decide) ?_
  refine lv_iadd cx.1 cx.2.1 dL_law_175 ?_
  refine k_sld 2 cx hX hbl hbA hI rfl (by omega) hL dL_law_176 ?_
  refine lv_aload_n cx.1 cx.2.1 dL_law_177 rfl (lv_at hl 2 rfl) ?_
  refine lv_iload cx.1 cx.2.1 dL_law_178 (lv_at hl 1 rfl) ?_
  refine lv_iconst (v := 3) cx.1 cx.2.1 dL_law_180 (by decide) ?_
  refine lv_iadd cx.1 cx.2.1 dL_law_181 ?_
  refine k_sld 3 cx hX hbl hbA hI rfl (by omega) hL dL_law_182 ?_
  refine k_callV (C := RX1) (T := TX1) (N := 13) (ci := 1) 3 (ow oa ca f ++ xw xa ca (kSt (xfInsert v (xs (4 * k + 1)) (xs (4 * k + 2)) (xs (4 * k + 3))) v (xFollow (xPut v (xs (4 * k + 1)) (xs (4 * k + 2)) (xs (4 * k + 3))) (xs (4 * k + 1))))) [] cx (hl.1.trans hml.symm) (kX1_insert l D ca ma w (xs (4 * k + 1)) (xs (4 * k + 2)) (xs (4 * k + 3)) (SR_mc hS (by omega)).1) hI rfl (W1 := (ow oa ca f ++ (xw xa ca (kSt (xfInsert v (xs (4 * k + 1)) (xs (4 * k + 2)) (xs (4 * k + 3))) v (xFollow (xPut v (xs (4 * k + 1)) (xs (4 * k + 2)) (xs (4 * k + 3))) (xs (4 * k + 1)))) ++ mw ma ca (mInsert w (xs (4 * k + 1)) (xs (4 * k + 2)) (xs (4 * k + 3)))))) rfl mw_ad rfl rfl wk_490 wk_487 wk_488 wk_489 wk_3 ⟨rfl, by decide, by decide, by decide +kernel⟩ rfl ⟨rfl, rfl⟩ ⟨Nat.le_of_ble_eq_true rfl, Nat.le_of_ble_eq_true rfl⟩ (Nat.le_of_ble_eq_true rfl) dL_law_183 hf rfl (fun H locs hI => ?_)
  refine lv_aload_n cx.1 cx.2.1 dL_law_186 rfl (lv_at hl 4 rfl) ?_
  refine k_callV (C := RX1) (T := TX1) (N := 13) (ci := 1) 0 (ow oa ca f ++ xw xa ca (kSt (xfInsert v (xs (4 * k + 1)) (xs (4 * k + 2)) (xs (4 * k + 3))) v (xFollow (xPut v (xs (4 * k + 1)) (xs (4 * k + 2)) (xs (4 * k + 3))) (xs (4 * k + 1))))) [] cx (hl.1.trans hml.symm) (kX1_thrown l D ca ma (mInsert w (xs (4 * k + 1)) (xs (4 * k + 2)) (xs (4 * k + 3)))) hI rfl (W1 := (ow oa ca f ++ (xw xa ca (kSt (xfInsert v (xs (4 * k + 1)) (xs (4 * k + 2)) (xs (4 * k + 3))) v (xFollow (xPut v (xs (4 * k + 1)) (xs (4 * k + 2)) (xs (4 * k + 3))) (xs (4 * k + 1)))) ++ mw ma ca (mInsert w (xs (4 * k + 1)) (xs (4 * k + 2)) (xs (4 * k + 3)))))) rfl mw_ad rfl rfl wk_486 wk_483 wk_484 wk_485 wk_3 ⟨rfl, by decide, by decide, by decide +kernel⟩ rfl ⟨rfl, rfl⟩ ⟨Nat.le_of_ble_eq_true rfl, Nat.le_of_ble_eq_true rfl⟩ (Nat.le_of_ble_eq_true rfl) dL_law_187 hf rfl (fun H locs hI => ?_)
  refine k_top (y := nI (xfInsert v (xs (4 * k + 1)) (xs (4 * k + 2)) (xs (4 * k + 3)))) ((Z_insert w _ _ _).trans (f_insert hS _ _ _)) ?_
  refine lv_iload cx.1 cx.2.1 dL_law_190 (lv_at hl 0 rfl) ?_
  refine lv_icmp_eq (tgt := 197) cx.1 cx.2.1 dL_law_192 (by decide) (fun _ => ?_) (fun h9 => absurd rfl h9)
  refine lv_goto (tgt := 1061) cx.1 cx.2.1 dL_law_197 (by decide) ?_
  exact kk _ _ _ _ _ _ hI (SR_up (SR_insert hS (by omega) _ _ _) (by omega)) (lv_sub hl [1, 2, 3, 4, 5] rfl)
set_option maxHeartbeats 4000000 in
set_option maxRecDepth 100000 in
theorem ka_update (l : Launch) {p : Program} {e : Env} {s : State} {m : MethodId} {below : List Frame} {meth : Method} {c : Code} {H : Heap} {locs : List Loc} {cells slots : Nat} {Q : State → Prop} {ls : Array Slot} {D : va_G} {ca : Nat → ClassId} {xa ma : Nat → Nat} {A : Nat → Prop} {oa b L k : Nat} {xs : Nat → Int32} {f : Nat → Int64} {v : XS} {w : MS} (cx : KC p c code s #[Value.ref b] m RL D ca) (hml : c.maxLocals = 7) (hE : KE A s s.heap) (hlS : l.stackTraces = false) (hX : va_X b L xs s s.heap) (hbl : b < s.heap.size) (hbA : ¬ A b) (hL : L ≤ 2048) (hi : 4 * k + 4 ≤ L) (hf : cells + 1 ≤ room_1.cells ∧ slots + 6 ≤ room_1.slots) (hI : KI D A (ow oa ca f ++ (xw xa ca v ++ mw ma ca w)) s.heap H locs) (hS : SR (2 * k) v w) (hl : lv_has ls 7 [(4, .int (nI (4 * k))), (0, .ref b), (1, .ref (xa 0)), (2, .ref (ma 0)), (3, .ref oa)]) (kk : LBk l p e s m below meth c D ca xa ma A oa b k (cells + 1) (slots + 6) Q) : W p l e room_1 s m #[Value.ref b] below meth c H locs cells slots Q (F0 m 200 ls []) := by
  refine lv_aload_n cx.1 cx.2.1 dL_law_200 rfl (lv_at hl 2 rfl) ?_
  refine lv_aload_n cx.1 cx.2.1 dL_law_201 rfl (lv_at hl 1 rfl) ?_
  refine lv_iload cx.1 cx.2.1 dL_law_202 (lv_at hl 0 rfl) ?_
  refine lv_iconst (v := 1) cx.1 cx.2.1 dL_law_204 (by decide) ?_
  refine lv_iadd cx.1 cx.2.1 dL_law_205 ?_
  refine k_sld 1 cx hX hbl hbA hI rfl (by omega) hL dL_law_206 ?_
  refine lv_aload_n cx.1 cx.2.1 dL_law_207 rfl (lv_at hl 1 rfl) ?_
  refine lv_iload cx.1 cx.2.1 dL_law_208 (lv_at hl 0 rfl) ?_
  refine lv_iconst (v := 2) cx.1 cx.2.1 dL_law_210 (by decide) ?_
  refine lv_iadd cx.1 cx.2.1 dL_law_211 ?_
  refine k_sld 2 cx hX hbl hbA hI rfl (by omega) hL dL_law_212 ?_
  refine lv_aload_n cx.1 cx.2.1 dL_law_213 rfl (lv_at hl 1 rfl) ?_
  refine lv_iload cx.1 cx.2.1 dL_law_214 (lv_at hl 0 rfl) ?_
  refine lv_iconst (v := 3) cx.1 cx.2.1 dL_law_216 (by decide) ?_
  refine lv_iadd cx.1 cx.2.1 dL_law_217 ?_
  refine k_sld 3 cx hX hbl hbA hI rfl (by omega) hL dL_law_218 ?_
  refine k_callH 4 (ow oa ca f) (mw ma ca w) cx hE (hl.1.trans hml.symm) (kL_update l D ca xa v (xs (4 * k + 1)) (xs (4 * k + 2)) (xs (4 * k + 3)) (SR_mc hS (by omega)).2.2 hlS) hI rfl (W1 := (ow oa ca f ++ (xw xa ca (kSt (xfUpdate v (xs (4 * k + 1)) (xs (4 * k + 2)) (xs (4 * k + 3))) v (xFollow (xPut v (xs (4 * k + 1)) (xs (4 * k + 2)) (xs (4 * k + 3))) (xs (4 * k + 1)))) ++ mw ma ca w))) rfl xw_ad wk_267 wk_265 wk_266 wk_0 ⟨by decide, by decide, by decide +kernel⟩ rfl ⟨rfl, rfl⟩ ⟨Nat.le_of_ble_eq_true rfl, Nat.le_of_ble_eq_true rfl⟩ (Nat.le_of_ble_eq_true rfl) dL_law_219 hf rfl (fun H locs hI => ?_)
  refine lv_istore (lv' := [(5, .int (nI (xfUpdate v (xs (4 * k + 1)) (xs (4 * k + 2)) (xs (4 * k + 3))))), (4, .int (nI (4 * k))), (0, .ref b), (1, .ref (xa 0)), (2, .ref (ma 0)), (3, .ref oa)]) cx.1 cx.2.1 dL_law_222 hl (by decide) rfl (fun ls hl => ?_)
  refine lv_aload_n cx.1 cx.2.1 dL_law_224 rfl (lv_at hl 4 rfl) ?_
  refine lv_aload_n cx.1 cx.2.1 dL_law_225 rfl (lv_at hl 2 rfl) ?_
  refine lv_iload cx.1 cx.2.1 dL_law_226 (lv_at hl 1 rfl) ?_
  refine lv_iconst (v := 1) cx.1 cx.2.1 dL_law_228 (by decide) ?_
  refine lv_iadd cx.1 cx.2.1 dL_law_229 ?_
  refine k_sld 1 cx hX hbl hbA hI rfl (by omega) hL dL_law_230 ?_
  refine lv_aload_n cx.1 cx.2.1 dL_law_231 rfl (lv_at hl 2 rfl) ?_
  refine lv_iload cx.1 cx.2.1 dL_law_232 (lv_at hl 1 rfl) ?_
  refine lv_iconst (v := 2) cx.1 cx.2.1 dL_law_234 (by decide) ?_
  refine lv_iadd cx.1 cx.2.1 dL_law_235 ?_
  refine k_sld 2 cx hX hbl hbA hI rfl (by omega) hL dL_law_236 ?_
  refine lv_aload_n cx.1 cx.2.1 dL_law_237 rfl (lv_at hl 2 rfl) ?_
  refine lv_iload cx.1 cx.2.1 dL_law_238 (lv_at hl 1 rfl) ?_
  refine lv_iconst (v := 3) cx.1 cx.2.1 dL_law_240 (by decide) ?_
  refine lv_iadd cx.1 cx.2.1 dL_law_241 ?_
  refine k_sld 3 cx hX hbl hbA hI rfl (by omega) hL dL_law_242 ?_
  refine k_callV (C := RX1) (T := TX1) (N := 13) (ci := 1) 3 (ow oa ca f ++ xw xa ca (kSt (xfUpdate v (xs (4 * k + 1)) (xs (4 * k + 2)) (xs (4 * k + 3))) v (xFollow (xPut v (xs (4 * k + 1)) (xs (4 * k + 2)) (xs (4 * k + 3))) (xs (4 * k + 1))))) [] cx (hl.1.trans hml.symm) (kX1_update l D ca ma w (xs (4 * k + 1)) (xs (4 * k + 2)) (xs (4 * k + 3)) (SR_mc hS (by omega)).1) hI rfl (W1 := (ow oa ca f ++ (xw xa ca (kSt (xfUpdate v (xs (4 * k + 1)) (xs (4 * k + 2)) (xs (4 * k + 3))) v (xFollow (xPut v (xs (4 * k + 1)) (xs (4 * k + 2)) (xs (4 * k + 3))) (xs (4 * k + 1)))) ++ mw ma ca (mUpdate w (xs (4 * k + 1)) (xs (4 * k + 2)) (xs (4 * k + 3)))))) rfl mw_ad rfl rfl wk_535 wk_532 wk_533 wk_534 wk_3 ⟨rfl, by decide, by decide, by decide +kernel⟩ rfl ⟨rfl, rfl⟩ ⟨Nat.le_of_ble_eq_true rfl, Nat.le_of_ble_eq_true rfl⟩ (Nat.le_of_ble_eq_true rfl) dL_law_243 hf rfl (fun H locs hI => ?_)
  refine lv_aload_n cx.1 cx.2.1 dL_law_246 rfl (lv_at hl 4 rfl) ?_
  refine k_callV (C := RX1) (T := TX1) (N := 13) (ci := 1) 0 (ow oa ca f ++ xw xa ca (kSt (xfUpdate v (xs (4 * k + 1)) (xs (4 * k + 2)) (xs (4 * k + 3))) v (xFollow (xPut v (xs (4 * k + 1)) (xs (4 * k + 2)) (xs (4 * k + 3))) (xs (4 * k + 1))))) [] cx (hl.1.trans hml.symm) (kX1_thrown l D ca ma (mUpdate w (xs (4 * k + 1)) (xs (4 * k + 2)) (xs (4 * k + 3)))) hI rfl (W1 := (ow oa ca f ++ (xw xa ca (kSt (xfUpdate v (xs (4 * k + 1)) (xs (4 * k + 2)) (xs (4 * k + 3))) v (xFollow (xPut v (xs (4 * k + 1)) (xs (4 * k + 2)) (xs (4 * k + 3))) (xs (4 * k + 1)))) ++ mw ma ca (mUpdate w (xs (4 * k + 1)) (xs (4 * k + 2)) (xs (4 * k + 3)))))) rfl mw_ad rfl rfl wk_486 wk_483 wk_484 wk_485 wk_3 ⟨rfl, by decide, by decide, by decide +kernel⟩ rfl ⟨rfl, rfl⟩ ⟨Nat.le_of_ble_eq_true rfl, Nat.le_of_ble_eq_true rfl⟩ (Nat.le_of_ble_eq_true rfl) dL_law_247 hf rfl (fun H locs hI => ?_)
  refine k_top (y := nI (xfUpdate v (xs (4 * k + 1)) (xs (4 * k + 2)) (xs (4 * k + 3)))) ((Z_update w _ _ _).trans (f_update hS _ _ _)) ?_
  refine lv_iload cx.1 cx.2.1 dL_law_250 (lv_at hl 0 rfl) ?_
  refine lv_icmp_eq (tgt := 257) cx.1 cx.2.1 dL_law_252 (by decide) (fun _ => ?_) (fun h9 => absurd rfl h9)
  refine lv_goto (tgt := 1061) cx.1 cx.2.1 dL_law_257 (by decide) ?_
  exact kk _ _ _ _ _ _ hI (SR_up (SR_update hS (by omega) _ _ _) (by omega)) (lv_sub hl [1, 2, 3, 4, 5] rfl)
set_option maxHeartbeats 4000000 in
set_option maxRecDepth 100000 in
theorem ka_rekey (l : Launch) {p : Program} {e : Env} {s : State} {m : MethodId} {below : List Frame} {meth : Method} {c : Code} {H : Heap} {locs : List Loc} {cells slots : Nat} {Q : State → Prop} {ls : Array Slot} {D : va_G} {ca : Nat → ClassId} {xa ma : Nat → Nat} {A : Nat → Prop} {oa b L k : Nat} {xs : Nat → Int32} {f : Nat → Int64} {v : XS} {w : MS} (cx : KC p c code s #[Value.ref b] m RL D ca) (hml : c.maxLocals = 7) (hE : KE A s s.heap) (hlS : l.stackTraces = false) (hX : va_X b L xs s s.heap) (hbl : b < s.heap.size) (hbA : ¬ A b) (hL : L ≤ 2048) (hi : 4 * k + 4 ≤ L) (hf : cells + 1 ≤ room_1.cells ∧ slots + 6 ≤ room_1.slots) (hI : KI D A (ow oa ca f ++ (xw xa ca v ++ mw ma ca w)) s.heap H locs) (hS : SR (2 * k) v w) (hl : lv_has ls 7 [(4, .int (nI (4 * k))), (0, .ref b), (1, .ref (xa 0)), (2, .ref (ma 0)), (3, .ref oa)]) (kk : LBk l p e s m below meth c D ca xa ma A oa b k (cells + 1) (slots + 6) Q) : W p l e room_1 s m #[Value.ref b] below meth c H locs cells slots Q (F0 m 316 ls []) := by
  refine lv_aload_n cx.1 cx.2.1 dL_law_316 rfl (lv_at hl 2 rfl) ?_
  refine lv_aload_n cx.1 cx.2.1 dL_law_317 rfl (lv_at hl 1 rfl) ?_
  refine lv_iload cx.1 cx.2.1 dL_law_318 (lv_at hl 0 rfl) ?_
  refine lv_iconst (v := 1) cx.1 cx.2.1 dL_law_320 (by decide) ?_
  refine lv_iadd cx.1 cx.2.1 dL_law_321 ?_
  refine k_sld 1 cx hX hbl hbA hI rfl (by omega) hL dL_law_322 ?_
  refine lv_aload_n cx.1 cx.2.1 dL_law_323 rfl (lv_at hl 1 rfl) ?_
  refine lv_iload cx.1 cx.2.1 dL_law_324 (lv_at hl 0 rfl) ?_
  refine lv_iconst (v := 2) cx.1 cx.2.1 dL_law_326 (by decide) ?_
  refine lv_iadd cx.1 cx.2.1 dL_law_327 ?_
  refine k_sld 2 cx hX hbl hbA hI rfl (by omega) hL dL_law_328 ?_
  refine k_callH 3 (ow oa ca f) (mw ma ca w) cx hE (hl.1.trans hml.symm) (kL_rekey l D ca xa v (xs (4 * k + 1)) (xs (4 * k + 2)) (SR_mc hS (by omega)).2.2 hlS) hI rfl (W1 := (ow oa ca f ++ (xw xa ca (kSt (xfRekey v (xs (4 * k + 1)) (xs (4 * k + 2))) v (xRekey v (xs (4 * k + 1)) (xs (4 * k + 2)))) ++ mw ma ca w))) rfl xw_ad wk_306 wk_304 wk_305 wk_0 ⟨by decide, by decide, by decide +kernel⟩ rfl ⟨rfl, rfl⟩ ⟨Nat.le_of_ble_eq_true rfl, Nat.le_of_ble_eq_true rfl⟩ (Nat.le_of_ble_eq_true rfl) dL_law_329 hf rfl (fun H locs hI => ?_)
  refine lv_istore (lv' := [(5, .int (nI (xfRekey v (xs (4 * k + 1)) (xs (4 * k + 2))))), (4, .int (nI (4 * k))), (0, .ref b), (1, .ref (xa 0)), (2, .ref (ma 0)), (3, .ref oa)]) cx.1 cx.2.1 dL_law_332 hl (by decide) rfl (fun ls hl => ?_)
  refine lv_aload_n cx.1 cx.2.1 dL_law_334 rfl (lv_at hl 4 rfl) ?_
  refine lv_aload_n cx.1 cx.2.1 dL_law_335 rfl (lv_at hl 2 rfl) ?_
  refine lv_iload cx.1 cx.2.1 dL_law_336 (lv_at hl 1 rfl) ?_
  refine lv_iconst (v := 1) cx.1 cx.2.1 dL_law_338 (by decide) ?_
  refine lv_iadd cx.1 cx.2.1 dL_law_339 ?_
  refine k_sld 1 cx hX hbl hbA hI rfl (by omega) hL dL_law_340 ?_
  refine lv_aload_n cx.1 cx.2.1 dL_law_341 rfl (lv_at hl 2 rfl) ?_
  refine lv_iload cx.1 cx.2.1 dL_law_342 (lv_at hl 1 rfl) ?_
  refine lv_iconst (v := 2) cx.1 cx.2.1 dL_law_344 (by decide) ?_
  refine lv_iadd cx.1 cx.2.1 dL_law_345 ?_
  refine k_sld 2 cx hX hbl hbA hI rfl (by omega) hL dL_law_346 ?_
  refine k_callV (C := RX1) (T := TX1) (N := 13) (ci := 1) 2 (ow oa ca f ++ xw xa ca (kSt (xfRekey v (xs (4 * k + 1)) (xs (4 * k + 2))) v (xRekey v (xs (4 * k + 1)) (xs (4 * k + 2))))) [] cx (hl.1.trans hml.symm) (kX1_rekey l D ca ma w (xs (4 * k + 1)) (xs (4 * k + 2)) (SR_mc hS (by omega)).1 (SR_mc hS (by omega)).2.1) hI rfl (W1 := (ow oa ca f ++ (xw xa ca (kSt (xfRekey v (xs (4 * k + 1)) (xs (4 * k + 2))) v (xRekey v (xs (4 * k + 1)) (xs (4 * k + 2)))) ++ mw ma ca (mRekey w (xs (4 * k + 1)) (xs (4 * k + 2)))))) rfl mw_ad rfl rfl wk_543 wk_540 wk_541 wk_542 wk_3 ⟨rfl, by decide, by decide, by decide +kernel⟩ rfl ⟨rfl, rfl⟩ ⟨Nat.le_of_ble_eq_true rfl, Nat.le_of_ble_eq_true rfl⟩ (Nat.le_of_ble_eq_true rfl) dL_law_347 hf rfl (fun H locs hI => ?_)
  refine lv_aload_n cx.1 cx.2.1 dL_law_350 rfl (lv_at hl 4 rfl) ?_
  refine k_callV (C := RX1) (T := TX1) (N := 13) (ci := 1) 0 (ow oa ca f ++ xw xa ca (kSt (xfRekey v (xs (4 * k + 1)) (xs (4 * k + 2))) v (xRekey v (xs (4 * k + 1)) (xs (4 * k + 2))))) [] cx (hl.1.trans hml.symm) (kX1_thrown l D ca ma (mRekey w (xs (4 * k + 1)) (xs (4 * k + 2)))) hI rfl (W1 := (ow oa ca f ++ (xw xa ca (kSt (xfRekey v (xs (4 * k + 1)) (xs (4 * k + 2))) v (xRekey v (xs (4 * k + 1)) (xs (4 * k + 2)))) ++ mw ma ca (mRekey w (xs (4 * k + 1)) (xs (4 * k + 2)))))) rfl mw_ad rfl rfl wk_486 wk_483 wk_484 wk_485 wk_3 ⟨rfl, by decide, by decide, by decide +kernel⟩ rfl ⟨rfl, rfl⟩ ⟨Nat.le_of_ble_eq_true rfl, Nat.le_of_ble_eq_true rfl⟩ (Nat.le_of_ble_eq_true rfl) dL_law_351 hf rfl (fun H locs hI => ?_)
  refine k_top (y := nI (xfRekey v (xs (4 * k + 1)) (xs (4 * k + 2)))) ((Z_rekey w _ _).trans (f_rekey hS _ _)) ?_
  refine lv_iload cx.1 cx.2.1 dL_law_354 (lv_at hl 0 rfl) ?_
  refine lv_icmp_eq (tgt := 361) cx.1 cx.2.1 dL_law_356 (by decide) (fun _ => ?_) (fun h9 => absurd rfl h9)
  refine lv_goto (tgt := 1061) cx.1 cx.2.1 dL_law_361 (by decide) ?_
  exact kk _ _ _ _ _ _ hI (SR_rekey hS (by omega) _ _) (lv_sub hl [1, 2, 3, 4, 5] rfl)

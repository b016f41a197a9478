set_option maxHeartbeats 4000000 in
set_option maxRecDepth 100000 in
theorem kL_insert (l : Launch) (D : va_G) (ca : Nat → ClassId) (ad : Nat → Nat) (v : XS) (key a b : Int32) (h0 : ¬ xc v < 0) (hlS : l.stackTraces = false) : CH l yL_insert cL_insert 5 (some .int) [(0, 7, 10, 13), (0, 7, 14, 15), (0, 7, 18, 17)] (KR1 7 152) D ca (xw ad ca v) [.ref (ad 0), .int key, .int a, .int b] (some (.int (nI (xfInsert v key a b)))) (xw ad ca (kSt (xfInsert v key a b) v (xFollow (xPut v key a b) key))) := by
  refine CH.of (by decide) (Nat.le_of_ble_eq_true rfl) ?_
  intro p e s m below meth c A ls cx hml hr hlk htab hE hI hl
  have hl : lv_has ls 5 [(0, .ref (ad 0)), (1, .int key), (2, .int a), (3, .int b)] := hl
  refine lv_aload_n cx.1 cx.2.1 dL_insert_0 rfl (lv_at hl 0 rfl) ?_
  refine lv_iload_n cx.1 cx.2.1 dL_insert_1 rfl (lv_at hl 1 rfl) ?_
  refine lv_iload_n cx.1 cx.2.1 dL_insert_2 rfl (lv_at hl 2 rfl) ?_
  refine lv_iload_n cx.1 cx.2.1 dL_insert_3 rfl (lv_at hl 3 rfl) ?_
  refine k_callX (C := RX0) (T := TX0) (N := 12) (ci := 0) 3 [] [] cx hE (hl.1.trans hml.symm) (kX0_insert l D ca ad v key a b h0 hlS) hI (kn0 _) (kn0 _) xw_ad rfl rfl wk_137 wk_134 wk_135 wk_136 wk_1 ⟨rfl, by decide, by decide, by decide +kernel⟩ rfl ⟨rfl, rfl⟩ ⟨Nat.le_of_ble_eq_true rfl, Nat.le_of_ble_eq_true rfl⟩ (Nat.le_of_ble_eq_true rfl) dL_insert_4 ⟨Nat.le_of_ble_eq_true rfl, Nat.le_of_ble_eq_true rfl⟩ rfl (fun E ce q9 H locs hψ hI hq hv hcl => ?_) (fun hφ H locs hI => ?_)
  · rcases hψ with ⟨hf, rfl⟩ | ⟨hf, rfl⟩ | ⟨hf, rfl⟩
    · refine vx_catch (E := "java/lang/IndexOutOfBoundsException") (name := "java/lang/IndexOutOfBoundsException") cx.2.2.1 [] ⟨0, 7, 10, 13⟩ [⟨0, 7, 14, 15⟩, ⟨0, 7, 18, 17⟩] (htab.trans rfl) (fun z hz => nomatch hz) (by decide) (by decide) (cx.2.2.2.1 _ wk_131) (kl_ys hE (by decide)) hq hv hcl ?_
      refine lv_astore (lv' := [(4, .ref q9), (0, .ref (ad 0)), (1, .int key), (2, .int a), (3, .int b)]) cx.1 cx.2.1 dL_insert_10 hl (by decide) rfl (fun ls hl => ?_)
      refine lv_iconst (v := 1) cx.1 cx.2.1 dL_insert_12 (by decide) ?_
      exact ke_i cx hr hlk hI (Nat.le_refl _) (Nat.le_refl _) dL_insert_13 (by rw [hf]; rfl) (by rw [kSt, if_neg (by rw [hf]; decide)])
    · refine vx_catch (E := "java/lang/IllegalArgumentException") (name := "java/lang/IllegalArgumentException") cx.2.2.1 [⟨0, 7, 10, 13⟩] ⟨0, 7, 14, 15⟩ [⟨0, 7, 18, 17⟩] (htab.trans rfl) (fun z hz => by simp only [List.mem_cons, List.not_mem_nil, or_false] at hz; subst hz; exact Or.inr ⟨by decide, "java/lang/IndexOutOfBoundsException", cx.2.2.2.1 _ wk_131, kl_nc hE (by decide) (by decide) (by decide)⟩) (by decide) (by decide) (cx.2.2.2.1 _ wk_132) (kl_ys hE (by decide)) hq hv hcl ?_
      refine lv_astore (lv' := [(4, .ref q9), (0, .ref (ad 0)), (1, .int key), (2, .int a), (3, .int b)]) cx.1 cx.2.1 dL_insert_14 hl (by decide) rfl (fun ls hl => ?_)
      refine lv_iconst (v := 2) cx.1 cx.2.1 dL_insert_16 (by decide) ?_
      exact ke_i cx hr hlk hI (Nat.le_refl _) (Nat.le_refl _) dL_insert_17 (by rw [hf]; rfl) (by rw [kSt, if_neg (by rw [hf]; decide)])
    · refine vx_catch (E := "java/lang/IllegalStateException") (name := "java/lang/IllegalStateException") cx.2.2.1 [⟨0, 7, 10, 13⟩, ⟨0, 7, 14, 15⟩] ⟨0, 7, 18, 17⟩ [] (htab.trans rfl) (fun z hz => by simp only [List.mem_cons, List.not_mem_nil, or_false] at hz; rcases hz with rfl | rfl <;> first | (exact Or.inr ⟨by decide, "java/lang/IndexOutOfBoundsException", cx.2.2.2.1 _ wk_131, kl_nc hE (by decide) (by decide) (by decide)⟩) | (exact Or.inr ⟨by decide, "java/lang/IllegalArgumentException", cx.2.2.2.1 _ wk_132, kl_nc hE (by decide) (by decide) (by decide)⟩)) (by decide) (by decide) (cx.2.2.2.1 _ wk_133) (kl_ys hE (by decide)) hq hv hcl ?_
      refine lv_astore (lv' := [(4, .ref q9), (0, .ref (ad 0)), (1, .int key), (2, .int a), (3, .int b)]) cx.1 cx.2.1 dL_insert_18 hl (by decide) rfl (fun ls hl => ?_)
      refine lv_iconst (v := 3) cx.1 cx.2.1 dL_insert_20 (by decide) ?_
      exact ke_i cx hr hlk hI (Nat.le_refl _) (Nat.le_refl _) dL_insert_21 (by rw [hf]; rfl) (by rw [kSt, if_neg (by rw [hf]; decide)])
  · refine lv_goto (tgt := 22) cx.1 cx.2.1 dL_insert_7 (by decide) ?_
    refine lv_iconst (v := 0) cx.1 cx.2.1 dL_insert_22 (by decide) ?_
    exact ke_i cx hr hlk hI (Nat.le_refl _) (Nat.le_refl _) dL_insert_23 (by rw [hφ]; rfl) (by rw [kSt, if_pos hφ])
set_option maxHeartbeats 4000000 in
set_option maxRecDepth 100000 in
theorem kL_update (l : Launch) (D : va_G) (ca : Nat → ClassId) (ad : Nat → Nat) (v : XS) (key a b : Int32) (h0 : ¬ xc v < 0) (hlS : l.stackTraces = false) : CH l yL_update cL_update 5 (some .int) [(0, 7, 10, 13), (0, 7, 14, 15), (0, 7, 18, 22)] (KR1 7 152) D ca (xw ad ca v) [.ref (ad 0), .int key, .int a, .int b] (some (.int (nI (xfUpdate v key a b)))) (xw ad ca (kSt (xfUpdate v key a b) v (xFollow (xPut v key a b) key))) := by
  refine CH.of (by decide) (Nat.le_of_ble_eq_true rfl) ?_
  intro p e s m below meth c A ls cx hml hr hlk htab hE hI hl
  have hl : lv_has ls 5 [(0, .ref (ad 0)), (1, .int key), (2, .int a), (3, .int b)] := hl
  refine lv_aload_n cx.1 cx.2.1 dL_update_0 rfl (lv_at hl 0 rfl) ?_
  refine lv_iload_n cx.1 cx.2.1 dL_update_1 rfl (lv_at hl 1 rfl) ?_
  refine lv_iload_n cx.1 cx.2.1 dL_update_2 rfl (lv_at hl 2 rfl) ?_
  refine lv_iload_n cx.1 cx.2.1 dL_update_3 rfl (lv_at hl 3 rfl) ?_
  refine k_callX (C := RX0) (T := TX0) (N := 12) (ci := 0) 3 [] [] cx hE (hl.1.trans hml.symm) (kX0_update l D ca ad v key a b h0 hlS) hI (kn0 _) (kn0 _) xw_ad rfl rfl wk_272 wk_269 wk_270 wk_271 wk_1 ⟨rfl, by decide, by decide, by decide +kernel⟩ rfl ⟨rfl, rfl⟩ ⟨Nat.le_of_ble_eq_true rfl, Nat.le_of_ble_eq_true rfl⟩ (Nat.le_of_ble_eq_true rfl) dL_update_4 ⟨Nat.le_of_ble_eq_true rfl, Nat.le_of_ble_eq_true rfl⟩ rfl (fun E ce q9 H locs hψ hI hq hv hcl => ?_) (fun hφ H locs hI => ?_)
  · rcases hψ with ⟨hf, rfl⟩ | ⟨hf, rfl⟩ | ⟨hf, rfl⟩
    · refine vx_catch (E := "java/lang/IndexOutOfBoundsException") (name := "java/lang/IndexOutOfBoundsException") cx.2.2.1 [] ⟨0, 7, 10, 13⟩ [⟨0, 7, 14, 15⟩, ⟨0, 7, 18, 22⟩] (htab.trans rfl) (fun z hz => nomatch hz) (by decide) (by decide) (cx.2.2.2.1 _ wk_131) (kl_ys hE (by decide)) hq hv hcl ?_
      refine lv_astore (lv' := [(4, .ref q9), (0, .ref (ad 0)), (1, .int key), (2, .int a), (3, .int b)]) cx.1 cx.2.1 dL_update_10 hl (by decide) rfl (fun ls hl => ?_)
      refine lv_iconst (v := 1) cx.1 cx.2.1 dL_update_12 (by decide) ?_
      exact ke_i cx hr hlk hI (Nat.le_refl _) (Nat.le_refl _) dL_update_13 (by rw [hf]; rfl) (by rw [kSt, if_neg (by rw [hf]; decide)])
    · refine vx_catch (E := "java/lang/IllegalArgumentException") (name := "java/lang/IllegalArgumentException") cx.2.2.1 [⟨0, 7, 10, 13⟩] ⟨0, 7, 14, 15⟩ [⟨0, 7, 18, 22⟩] (htab.trans rfl) (fun z hz => by simp only [List.mem_cons, List.not_mem_nil, or_false] at hz; subst hz; exact Or.inr ⟨by decide, "java/lang/IndexOutOfBoundsException", cx.2.2.2.1 _ wk_131, kl_nc hE (by decide) (by decide) (by decide)⟩) (by decide) (by decide) (cx.2.2.2.1 _ wk_132) (kl_ys hE (by decide)) hq hv hcl ?_
      refine lv_astore (lv' := [(4, .ref q9), (0, .ref (ad 0)), (1, .int key), (2, .int a), (3, .int b)]) cx.1 cx.2.1 dL_update_14 hl (by decide) rfl (fun ls hl => ?_)
      refine lv_iconst (v := 2) cx.1 cx.2.1 dL_update_16 (by decide) ?_
      exact ke_i cx hr hlk hI (Nat.le_refl _) (Nat.le_refl _) dL_update_17 (by rw [hf]; rfl) (by rw [kSt, if_neg (by rw [hf]; decide)])
    · refine vx_catch (E := "java/util/NoSuchElementException") (name := "java/util/NoSuchElementException") cx.2.2.1 [⟨0, 7, 10, 13⟩, ⟨0, 7, 14, 15⟩] ⟨0, 7, 18, 22⟩ [] (htab.trans rfl) (fun z hz => by simp only [List.mem_cons, List.not_mem_nil, or_false] at hz; rcases hz with rfl | rfl <;> first | (exact Or.inr ⟨by decide, "java/lang/IndexOutOfBoundsException", cx.2.2.2.1 _ wk_131, kl_nc hE (by decide) (by decide) (by decide)⟩) | (exact Or.inr ⟨by decide, "java/lang/IllegalArgumentException", cx.2.2.2.1 _ wk_132, kl_nc hE (by decide) (by decide) (by decide)⟩)) (by decide) (by decide) (cx.2.2.2.1 _ wk_268) (kl_ys hE (by decide)) hq hv hcl ?_
      refine lv_astore (lv' := [(4, .ref q9), (0, .ref (ad 0)), (1, .int key), (2, .int a), (3, .int b)]) cx.1 cx.2.1 dL_update_18 hl (by decide) rfl (fun ls hl => ?_)
      refine lv_iconst (v := 3) cx.1 cx.2.1 dL_update_20 (by decide) ?_
      exact ke_i cx hr hlk hI (Nat.le_refl _) (Nat.le_refl _) dL_update_21 (by rw [hf]; rfl) (by rw [kSt, if_neg (by rw [hf]; decide)])
  · refine lv_goto (tgt := 22) cx.1 cx.2.1 dL_update_7 (by decide) ?_
    refine lv_iconst (v := 0) cx.1 cx.2.1 dL_update_22 (by decide) ?_
    exact ke_i cx hr hlk hI (Nat.le_refl _) (Nat.le_refl _) dL_update_23 (by rw [hφ]; rfl) (by rw [kSt, if_pos hφ])
set_option maxHeartbeats 4000000 in
set_option maxRecDepth 100000 in
theorem kL_delete (l : Launch) (D : va_G) (ca : Nat → ClassId) (ad : Nat → Nat) (oa : Nat) (f : Nat → Int64) (v : XS) (key : Int32) (h0 : ¬ xc v < 0) (hlS : l.stackTraces = false) : CH l yL_delete cL_delete 4 (some .int) [(0, 9, 12, 13), (0, 9, 15, 22)] (KR1 7 151) D ca (ow oa ca f ++ xw ad ca v) [.ref (ad 0), .int key, .ref oa] (some (.int (nI (xfDelete v key)))) (ow oa ca (kOf (xfDelete v key) f (xRow v key).toInt64) ++ xw ad ca (kSt (xfDelete v key) v (xFollow (xPut v key (-1) (-1)) key))) := by
  refine CH.of (by decide) (Nat.le_of_ble_eq_true rfl) ?_
  intro p e s m below meth c A ls cx hml hr hlk htab hE hI hl
  have hl : lv_has ls 4 [(0, .ref (ad 0)), (1, .int key), (2, .ref oa)] := hl
  refine lv_aload_n cx.1 cx.2.1 dL_delete_0 rfl (lv_at hl 2 rfl) ?_
  refine lv_iconst (v := 0) cx.1 cx.2.1 dL_delete_1 (by decide) ?_
  refine lv_aload_n cx.1 cx.2.1 dL_delete_2 rfl (lv_at hl 0 rfl) ?_
  refine lv_iload_n cx.1 cx.2.1 dL_delete_3 rfl (lv_at hl 1 rfl) ?_
  refine k_callX (C := RX0) (T := TX0) (N := 12) (ci := 0) 1 (ow oa ca f) [] cx hE (hl.1.trans hml.symm) (kX0_delete l D ca ad v key h0 hlS) hI (kn2 _ _) (kn2 _ _) xw_ad rfl rfl wk_295 wk_292 wk_293 wk_294 wk_1 ⟨rfl, by decide, by decide, by decide +kernel⟩ rfl ⟨rfl, rfl⟩ ⟨Nat.le_of_ble_eq_true rfl, Nat.le_of_ble_eq_true rfl⟩ (Nat.le_of_ble_eq_true rfl) dL_delete_4 ⟨Nat.le_of_ble_eq_true rfl, Nat.le_of_ble_eq_true rfl⟩ rfl (fun E ce q9 H locs hψ hI hq hv hcl => ?_) (fun hφ H locs hI => ?_)
  · rcases hψ with ⟨hf, rfl⟩ | ⟨hf, rfl⟩
    · refine vx_catch (E := "java/lang/IndexOutOfBoundsException") (name := "java/lang/IndexOutOfBoundsException") cx.2.2.1 [] ⟨0, 9, 12, 13⟩ [⟨0, 9, 15, 22⟩] (htab.trans rfl) (fun z hz => nomatch hz) (by decide) (by decide) (cx.2.2.2.1 _ wk_131) (kl_ys hE (by decide)) hq hv hcl ?_
      refine lv_astore_n (lv' := [(3, .ref q9), (0, .ref (ad 0)), (1, .int key), (2, .ref oa)]) cx.1 cx.2.1 dL_delete_12 rfl hl (by decide) rfl (fun ls hl => ?_)
      refine lv_iconst (v := 1) cx.1 cx.2.1 dL_delete_13 (by decide) ?_
      exact ke_i cx hr hlk hI (Nat.le_refl _) (Nat.le_refl _) dL_delete_14 (by rw [hf]; rfl) (by rw [kSt, kOf, if_neg (by rw [hf]; decide), if_neg (by rw [hf]; decide)])
    · refine vx_catch (E := "java/util/NoSuchElementException") (name := "java/util/NoSuchElementException") cx.2.2.1 [⟨0, 9, 12, 13⟩] ⟨0, 9, 15, 22⟩ [] (htab.trans rfl) (fun z hz => by simp only [List.mem_cons, List.not_mem_nil, or_false] at hz; subst hz; exact Or.inr ⟨by decide, "java/lang/IndexOutOfBoundsException", cx.2.2.2.1 _ wk_131, kl_nc hE (by decide) (by decide) (by decide)⟩) (by decide) (by decide) (cx.2.2.2.1 _ wk_268) (kl_ys hE (by decide)) hq hv hcl ?_
      refine lv_astore_n (lv' := [(3, .ref q9), (0, .ref (ad 0)), (1, .int key), (2, .ref oa)]) cx.1 cx.2.1 dL_delete_15 rfl hl (by decide) rfl (fun ls hl => ?_)
      refine lv_iconst (v := 2) cx.1 cx.2.1 dL_delete_16 (by decide) ?_
      exact ke_i cx hr hlk hI (Nat.le_refl _) (Nat.le_refl _) dL_delete_17 (by rw [hf]; rfl) (by rw [kSt, kOf, if_neg (by rw [hf]; decide), if_neg (by rw [hf]; decide)])
  · refine lv_i2l cx.1 cx.2.1 dL_delete_7 rfl ?_
    refine kl_st cx hI dL_delete_8 (fun H locs hI => ?_)
    refine lv_goto (tgt := 18) cx.1 cx.2.1 dL_delete_9 (by decide) ?_
    refine lv_iconst (v := 0) cx.1 cx.2.1 dL_delete_18 (by decide) ?_
    exact ke_i cx hr hlk hI (Nat.le_refl _) (Nat.le_refl _) dL_delete_19 (by rw [hφ]; rfl) (by rw [kSt, kOf, if_pos hφ, if_pos hφ])
set_option maxHeartbeats 4000000 in
set_option maxRecDepth 100000 in
theorem kL_rekey (l : Launch) (D : va_G) (ca : Nat → ClassId) (ad : Nat → Nat) (v : XS) (key to : Int32) (h0 : ¬ xc v < 0) (hlS : l.stackTraces = false) : CH l yL_rekey cL_rekey 4 (some .int) [(0, 6, 9, 13), (0, 6, 12, 15), (0, 6, 15, 22), (0, 6, 18, 17)] (KR1 7 151) D ca (xw ad ca v) [.ref (ad 0), .int key, .int to] (some (.int (nI (xfRekey v key to)))) (xw ad ca (kSt (xfRekey v key to) v (xRekey v key to))) := by
  refine CH.of (by decide) (Nat.le_of_ble_eq_true rfl) ?_
  intro p e s m below meth c A ls cx hml hr hlk htab hE hI hl
  have hl : lv_has ls 4 [(0, .ref (ad 0)), (1, .int key), (2, .int to)] := hl
  refine lv_aload_n cx.1 cx.2.1 dL_rekey_0 rfl (lv_at hl 0 rfl) ?_
  refine lv_iload_n cx.1 cx.2.1 dL_rekey_1 rfl (lv_at hl 1 rfl) ?_
  refine lv_iload_n cx.1 cx.2.1 dL_rekey_2 rfl (lv_at hl 2 rfl) ?_
  refine k_callX (C := RX0) (T := TX0) (N := 12) (ci := 0) 2 [] [] cx hE (hl.1.trans hml.symm) (kX0_rekey l D ca ad v key to h0 hlS) hI (kn0 _) (kn0 _) xw_ad rfl rfl wk_310 wk_307 wk_308 wk_309 wk_1 ⟨rfl, by decide, by decide, by decide +kernel⟩ rfl ⟨rfl, rfl⟩ ⟨Nat.le_of_ble_eq_true rfl, Nat.le_of_ble_eq_true rfl⟩ (Nat.le_of_ble_eq_true rfl) dL_rekey_3 ⟨Nat.le_of_ble_eq_true rfl, Nat.le_of_ble_eq_true rfl⟩ rfl (fun E ce q9 H locs hψ hI hq hv hcl => ?_) (fun hφ H locs hI => ?_)
  · rcases hψ with ⟨hf, rfl⟩ | ⟨hf, rfl⟩ | ⟨hf, rfl⟩ | ⟨hf, rfl⟩
    · refine vx_catch (E := "java/lang/IndexOutOfBoundsException") (name := "java/lang/IndexOutOfBoundsException") cx.2.2.1 [] ⟨0, 6, 9, 13⟩ [⟨0, 6, 12, 15⟩, ⟨0, 6, 15, 22⟩, ⟨0, 6, 18, 17⟩] (htab.trans rfl) (fun z hz => nomatch hz) (by decide) (by decide) (cx.2.2.2.1 _ wk_131) (kl_ys hE (by decide)) hq hv hcl ?_
      refine lv_astore_n (lv' := [(3, .ref q9), (0, .ref (ad 0)), (1, .int key), (2, .int to)]) cx.1 cx.2.1 dL_rekey_9 rfl hl (by decide) rfl (fun ls hl => ?_)
      refine lv_iconst (v := 1) cx.1 cx.2.1 dL_rekey_10 (by decide) ?_
      exact ke_i cx hr hlk hI (Nat.le_refl _) (Nat.le_refl _) dL_rekey_11 (by rw [hf]; rfl) (by rw [kSt, if_neg (by rw [hf]; decide)])
    · refine vx_catch (E := "java/lang/IllegalArgumentException") (name := "java/lang/IllegalArgumentException") cx.2.2.1 [⟨0, 6, 9, 13⟩] ⟨0, 6, 12, 15⟩ [⟨0, 6, 15, 22⟩, ⟨0, 6, 18, 17⟩] (htab.trans rfl) (fun z hz => by simp only [List.mem_cons, List.not_mem_nil, or_false] at hz; subst hz; exact Or.inr ⟨by decide, "java/lang/IndexOutOfBoundsException", cx.2.2.2.1 _ wk_131, kl_nc hE (by decide) (by decide) (by decide)⟩) (by decide) (by decide) (cx.2.2.2.1 _ wk_132) (kl_ys hE (by decide)) hq hv hcl ?_
      refine lv_astore_n (lv' := [(3, .ref q9), (0, .ref (ad 0)), (1, .int key), (2, .int to)]) cx.1 cx.2.1 dL_rekey_12 rfl hl (by decide) rfl (fun ls hl => ?_)
      refine lv_iconst (v := 2) cx.1 cx.2.1 dL_rekey_13 (by decide) ?_
      exact ke_i cx hr hlk hI (Nat.le_refl _) (Nat.le_refl _) dL_rekey_14 (by rw [hf]; rfl) (by rw [kSt, if_neg (by rw [hf]; decide)])
    · refine vx_catch (E := "java/util/NoSuchElementException") (name := "java/util/NoSuchElementException") cx.2.2.1 [⟨0, 6, 9, 13⟩, ⟨0, 6, 12, 15⟩] ⟨0, 6, 15, 22⟩ [⟨0, 6, 18, 17⟩] (htab.trans rfl) (fun z hz => by simp only [List.mem_cons, List.not_mem_nil, or_false] at hz; rcases hz with rfl | rfl <;> first | (exact Or.inr ⟨by decide, "java/lang/IndexOutOfBoundsException", cx.2.2.2.1 _ wk_131, kl_nc hE (by decide) (by decide) (by decide)⟩) | (exact Or.inr ⟨by decide, "java/lang/IllegalArgumentException", cx.2.2.2.1 _ wk_132, kl_nc hE (by decide) (by decide) (by decide)⟩)) (by decide) (by decide) (cx.2.2.2.1 _ wk_268) (kl_ys hE (by decide)) hq hv hcl ?_
      refine lv_astore_n (lv' := [(3, .ref q9), (0, .ref (ad 0)), (1, .int key), (2, .int to)]) cx.1 cx.2.1 dL_rekey_15 rfl hl (by decide) rfl (fun ls hl => ?_)
      refine lv_iconst (v := 3) cx.1 cx.2.1 dL_rekey_16 (by decide) ?_
      exact ke_i cx hr hlk hI (Nat.le_refl _) (Nat.le_refl _) dL_rekey_17 (by rw [hf]; rfl) (by rw [kSt, if_neg (by rw [hf]; decide)])
    · refine vx_catch (E := "java/lang/IllegalStateException") (name := "java/lang/IllegalStateException") cx.2.2.1 [⟨0, 6, 9, 13⟩, ⟨0, 6, 12, 15⟩, ⟨0, 6, 15, 22⟩] ⟨0, 6, 18, 17⟩ [] (htab.trans rfl) (fun z hz => by simp only [List.mem_cons, List.not_mem_nil, or_false] at hz; rcases hz with rfl | rfl | rfl <;> first | (exact Or.inr ⟨by decide, "java/lang/IndexOutOfBoundsException", cx.2.2.2.1 _ wk_131, kl_nc hE (by decide) (by decide) (by decide)⟩) | (exact Or.inr ⟨by decide, "java/lang/IllegalArgumentException", cx.2.2.2.1 _ wk_132, kl_nc hE (by decide) (by decide) (by decide)⟩) | (exact Or.inr ⟨by decide, "java/util/NoSuchElementException", cx.2.2.2.1 _ wk_268, kl_nc hE (by decide) (by decide) (by decide)⟩)) (by decide) (by decide) (cx.2.2.2.1 _ wk_133) (kl_ys hE (by decide)) hq hv hcl ?_
      refine lv_astore_n (lv' := [(3, .ref q9), (0, .ref (ad 0)), (1, .int key), (2, .int to)]) cx.1 cx.2.1 dL_rekey_18 rfl hl (by decide) rfl (fun ls hl => ?_)
      refine lv_iconst (v := 4) cx.1 cx.2.1 dL_rekey_19 (by decide) ?_
      exact ke_i cx hr hlk hI (Nat.le_refl _) (Nat.le_refl _) dL_rekey_20 (by rw [hf]; rfl) (by rw [kSt, if_neg (by rw [hf]; decide)])
  · refine lv_goto (tgt := 21) cx.1 cx.2.1 dL_rekey_6 (by decide) ?_
    refine lv_iconst (v := 0) cx.1 cx.2.1 dL_rekey_21 (by decide) ?_
    exact ke_i cx hr hlk hI (Nat.le_refl _) (Nat.le_refl _) dL_rekey_22 (by rw [hφ]; rfl) (by rw [kSt, if_pos hφ])
set_option maxHeartbeats 4000000 in
set_option maxRecDepth 100000 in
theorem kL_start (l : Launch) (D : va_G) (ca : Nat → ClassId) (ad : Nat → Nat) (v : XS) (al pa : Int32) (hlS : l.stackTraces = false) : CH l yL_start cL_start 4 (some .int) [(0, 6, 9, 15), (0, 6, 12, 17)] (KR1 7 104) D ca (xw ad ca v) [.ref (ad 0), .int al, .int pa] (some (.int (nI (xfStart v al pa)))) (xw ad ca (kSt (xfStart v al pa) v (xStart v al pa))) := by
  refine CH.of (by decide) (Nat.le_of_ble_eq_true rfl) ?_
  intro p e s m below meth c A ls cx hml hr hlk htab hE hI hl
  have hl : lv_has ls 4 [(0, .ref (ad 0)), (1, .int al), (2, .int pa)] := hl
  refine lv_aload_n cx.1 cx.2.1 dL_start_0 rfl (lv_at hl 0 rfl) ?_
  refine lv_iload_n cx.1 cx.2.1 dL_start_1 rfl (lv_at hl 1 rfl) ?_
  refine lv_iload_n cx.1 cx.2.1 dL_start_2 rfl (lv_at hl 2 rfl) ?_
  refine k_callX (C := RX0) (T := TX0) (N := 12) (ci := 0) 2 [] [] cx hE (hl.1.trans hml.symm) (kX0_start l D ca ad v al pa hlS) hI (kn0 _) (kn0 _) xw_ad rfl rfl wk_326 wk_323 wk_324 wk_325 wk_1 ⟨rfl, by decide, by decide, by decide +kernel⟩ rfl ⟨rfl, rfl⟩ ⟨Nat.le_of_ble_eq_true rfl, Nat.le_of_ble_eq_true rfl⟩ (Nat.le_of_ble_eq_true rfl) dL_start_3 ⟨Nat.le_of_ble_eq_true rfl, Nat.le_of_ble_eq_true rfl⟩ rfl (fun E ce q9 H locs hψ hI hq hv hcl => ?_) (fun hφ H locs hI => ?_)
  · rcases hψ with ⟨hf, rfl⟩ | ⟨hf, rfl⟩
    · refine vx_catch (E := "java/lang/IllegalArgumentException") (name := "java/lang/IllegalArgumentException") cx.2.2.1 [] ⟨0, 6, 9, 15⟩ [⟨0, 6, 12, 17⟩] (htab.trans rfl) (fun z hz => nomatch hz) (by decide) (by decide) (cx.2.2.2.1 _ wk_132) (kl_ys hE (by decide)) hq hv hcl ?_
      refine lv_astore_n (lv' := [(3, .ref q9), (0, .ref (ad 0)), (1, .int al), (2, .int pa)]) cx.1 cx.2.1 dL_start_9 rfl hl (by decide) rfl (fun ls hl => ?_)
      refine lv_iconst (v := 1) cx.1 cx.2.1 dL_start_10 (by decide) ?_
      exact ke_i cx hr hlk hI (Nat.le_refl _) (Nat.le_refl _) dL_start_11 (by rw [hf]; rfl) (by rw [kSt, if_neg (by rw [hf]; decide)])
    · refine vx_catch (E := "java/lang/IllegalStateException") (name := "java/lang/IllegalStateException") cx.2.2.1 [⟨0, 6, 9, 15⟩] ⟨0, 6, 12, 17⟩ [] (htab.trans rfl) (fun z hz => by simp only [List.mem_cons, List.not_mem_nil, or_false] at hz; subst hz; exact Or.inr ⟨by decide, "java/lang/IllegalArgumentException", cx.2.2.2.1 _ wk_132, kl_nc hE (by decide) (by decide) (by decide)⟩) (by decide) (by decide) (cx.2.2.2.1 _ wk_133) (kl_ys hE (by decide)) hq hv hcl ?_
      refine lv_astore_n (lv' := [(3, .ref q9), (0, .ref (ad 0)), (1, .int al), (2, .int pa)]) cx.1 cx.2.1 dL_start_12 rfl hl (by decide) rfl (fun ls hl => ?_)
      refine lv_iconst (v := 2) cx.1 cx.2.1 dL_start_13 (by decide) ?_
      exact ke_i cx hr hlk hI (Nat.le_refl _) (Nat.le_refl _) dL_start_14 (by rw [hf]; rfl) (by rw [kSt, if_neg (by rw [hf]; decide)])
  · refine lv_goto (tgt := 15) cx.1 cx.2.1 dL_start_6 (by decide) ?_
    refine lv_iconst (v := 0) cx.1 cx.2.1 dL_start_15 (by decide) ?_
    exact ke_i cx hr hlk hI (Nat.le_refl _) (Nat.le_refl _) dL_start_16 (by rw [hφ]; rfl) (by rw [kSt, if_pos hφ])
set_option maxHeartbeats 4000000 in
set_option maxRecDepth 100000 in
theorem kL_setPace (l : Launch) (D : va_G) (ca : Nat → ClassId) (ad : Nat → Nat) (v : XS) (ch lag : Int32) (hlS : l.stackTraces = false) : CH l yL_setPace cL_setPace 4 (some .int) [(0, 6, 9, 15)] (KR1 7 104) D ca (xw ad ca v) [.ref (ad 0), .int ch, .int lag] (some (.int (nI (xfPace ch lag)))) (xw ad ca (kSt (xfPace ch lag) v (xUl (xUk v ch) lag))) := by
  refine CH.of (by decide) (Nat.le_of_ble_eq_true rfl) ?_
  intro p e s m below meth c A ls cx hml hr hlk htab hE hI hl
  have hl : lv_has ls 4 [(0, .ref (ad 0)), (1, .int ch), (2, .int lag)] := hl
  refine lv_aload_n cx.1 cx.2.1 dL_setPace_0 rfl (lv_at hl 0 rfl) ?_
  refine lv_iload_n cx.1 cx.2.1 dL_setPace_1 rfl (lv_at hl 1 rfl) ?_
  refine lv_iload_n cx.1 cx.2.1 dL_setPace_2 rfl (lv_at hl 2 rfl) ?_
  refine k_callX (C := RX0) (T := TX0) (N := 12) (ci := 0) 2 [] [] cx hE (hl.1.trans hml.symm) (kX0_setPace l D ca ad v ch lag hlS) hI (kn0 _) (kn0 _) xw_ad rfl rfl wk_335 wk_332 wk_333 wk_334 wk_1 ⟨rfl, by decide, by decide, by decide +kernel⟩ rfl ⟨rfl, rfl⟩ ⟨Nat.le_of_ble_eq_true rfl, Nat.le_of_ble_eq_true rfl⟩ (Nat.le_of_ble_eq_true rfl) dL_setPace_3 ⟨Nat.le_of_ble_eq_true rfl, Nat.le_of_ble_eq_true rfl⟩ rfl (fun E ce q9 H locs hψ hI hq hv hcl => ?_) (fun hφ H locs hI => ?_)
  · obtain ⟨hf, rfl⟩ := hψ
    refine vx_catch (E := "java/lang/IllegalArgumentException") (name := "java/lang/IllegalArgumentException") cx.2.2.1 [] ⟨0, 6, 9, 15⟩ [] (htab.trans rfl) (fun z hz => nomatch hz) (by decide) (by decide) (cx.2.2.2.1 _ wk_132) (kl_ys hE (by decide)) hq hv hcl ?_
    refine lv_astore_n (lv' := [(3, .ref q9), (0, .ref (ad 0)), (1, .int ch), (2, .int lag)]) cx.1 cx.2.1 dL_setPace_9 rfl hl (by decide) rfl (fun ls hl => ?_)
    refine lv_iconst (v := 1) cx.1 cx.2.1 dL_setPace_10 (by decide) ?_
    exact ke_i cx hr hlk hI (Nat.le_refl _) (Nat.le_refl _) dL_setPace_11 (by rw [hf]; rfl) (by rw [kSt, if_neg (by rw [hf]; decide)])
  · refine lv_goto (tgt := 12) cx.1 cx.2.1 dL_setPace_6 (by decide) ?_
    refine lv_iconst (v := 0) cx.1 cx.2.1 dL_setPace_12 (by decide) ?_
    exact ke_i cx hr hlk hI (Nat.le_refl _) (Nat.le_refl _) dL_setPace_13 (by rw [hφ]; rfl) (by rw [kSt, if_pos hφ])
set_option maxHeartbeats 4000000 in
set_option maxRecDepth 100000 in
theorem kL_tick (l : Launch) (D : va_G) (ca : Nat → ClassId) (ad : Nat → Nat) (oa : Nat) (f : Nat → Int64) (v : XS) (lag : Int32) (mk n cn nn : Nat) (hm : xm v = nI mk) (he : ¬ (40 : Int32) ≤ xm v → xCopyE v = nI (mk + n)) (hle : ¬ (40 : Int32) ≤ xm v → mk + n ≤ 40) (hc : kMin (xk v) (xc v) = nI cn) (hn : xc v = nI nn) (hcn : cn ≤ nn) (hn2 : nn ≤ 1024) (hN : ∀ j, j < cn → vp_in (xN v (nI j).toNatClampNeg) 40) (hlS : l.stackTraces = false) : CH l yL_tick cL_tick 4 (some .int) [(0, 9, 12, 15), (0, 9, 15, 17)] (KR1 7 152) D ca (ow oa ca f ++ xw ad ca v) [.ref (ad 0), .int lag, .ref oa] (some (.int (nI (xfTick v lag)))) (ow oa ca (kOf (xfTick v lag) f (if lag ≤ xl v then (if 40 ≤ xm v then kMin (xk v) (xc v) else xCopyE v - xm v) else 0).toInt64) ++ xw ad ca (kSt (xfTick v lag) v (if lag ≤ xl v then (if 40 ≤ xm v then xPlay v cn else xCopy v mk n) else v))) := by
  refine CH.of (by decide) (Nat.le_of_ble_eq_true rfl) ?_
  intro p e s m below meth c A ls cx hml hr hlk htab hE hI hl
  have hl : lv_has ls 4 [(0, .ref (ad 0)), (1, .int lag), (2, .ref oa)] := hl
  refine lv_aload_n cx.1 cx.2.1 dL_tick_0 rfl (lv_at hl 2 rfl) ?_
  refine lv_iconst (v := 0) cx.1 cx.2.1 dL_tick_1 (by decide) ?_
  refine lv_aload_n cx.1 cx.2.1 dL_tick_2 rfl (lv_at hl 0 rfl) ?_
  refine lv_iload_n cx.1 cx.2.1 dL_tick_3 rfl (lv_at hl 1 rfl) ?_
  refine k_callX (C := RX0) (T := TX0) (N := 12) (ci := 0) 1 (ow oa ca f) [] cx hE (hl.1.trans hml.symm) (kX0_tick l D ca ad v lag mk n cn nn hm he hle hc hn hcn hn2 hN hlS) hI (kn2 _ _) (kn2 _ _) xw_ad rfl rfl wk_343 wk_340 wk_341 wk_342 wk_1 ⟨rfl, by decide, by decide, by decide +kernel⟩ rfl ⟨rfl, rfl⟩ ⟨Nat.le_of_ble_eq_true rfl, Nat.le_of_ble_eq_true rfl⟩ (Nat.le_of_ble_eq_true rfl) dL_tick_4 ⟨Nat.le_of_ble_eq_true rfl, Nat.le_of_ble_eq_true rfl⟩ rfl (fun E ce q9 H locs hψ hI hq hv hcl => ?_) (fun hφ H locs hI => ?_)
  · rcases hψ with ⟨hf, rfl⟩ | ⟨hf, rfl⟩
    · refine vx_catch (E := "java/lang/IllegalArgumentException") (name := "java/lang/IllegalArgumentException") cx.2.2.1 [] ⟨0, 9, 12, 15⟩ [⟨0, 9, 15, 17⟩] (htab.trans rfl) (fun z hz => nomatch hz) (by decide) (by decide) (cx.2.2.2.1 _ wk_132) (kl_ys hE (by decide)) hq hv hcl ?_
      refine lv_astore_n (lv' := [(3, .ref q9), (0, .ref (ad 0)), (1, .int lag), (2, .ref oa)]) cx.1 cx.2.1 dL_tick_12 rfl hl (by decide) rfl (fun ls hl => ?_)
      refine lv_iconst (v := 1) cx.1 cx.2.1 dL_tick_13 (by decide) ?_
      exact ke_i cx hr hlk hI (Nat.le_refl _) (Nat.le_refl _) dL_tick_14 (by rw [hf]; rfl) (by rw [kSt, kOf, if_neg (by rw [hf]; decide), if_neg (by rw [hf]; decide)])
    · refine vx_catch (E := "java/lang/IllegalStateException") (name := "java/lang/IllegalStateException") cx.2.2.1 [⟨0, 9, 12, 15⟩] ⟨0, 9, 15, 17⟩ [] (htab.trans rfl) (fun z hz => by simp only [List.mem_cons, List.not_mem_nil, or_false] at hz; subst hz; exact Or.inr ⟨by decide, "java/lang/IllegalArgumentException", cx.2.2.2.1 _ wk_132, kl_nc hE (by decide) (by decide) (by decide)⟩) (by decide) (by decide) (cx.2.2.2.1 _ wk_133) (kl_ys hE (by decide)) hq hv hcl ?_
      refine lv_astore_n (lv' := [(3, .ref q9), (0, .ref (ad 0)), (1, .int lag), (2, .ref oa)]) cx.1 cx.2.1 dL_tick_15 rfl hl (by decide) rfl (fun ls hl => ?_)
      refine lv_iconst (v := 2) cx.1 cx.2.1 dL_tick_16 (by decide) ?_
      exact ke_i cx hr hlk hI (Nat.le_refl _) (Nat.le_refl _) dL_tick_17 (by rw [hf]; rfl) (by rw [kSt, kOf, if_neg (by rw [hf]; decide), if_neg (by rw [hf]; decide)])
  · refine lv_i2l cx.1 cx.2.1 dL_tick_7 rfl ?_
    refine kl_st cx hI dL_tick_8 (fun H locs hI => ?_)
    refine lv_goto (tgt := 18) cx.1 cx.2.1 dL_tick_9 (by decide) ?_
    refine lv_iconst (v := 0) cx.1 cx.2.1 dL_tick_18 (by decide) ?_
    exact ke_i cx hr hlk hI (Nat.le_refl _) (Nat.le_refl _) dL_tick_19 (by rw [hφ]; rfl) (by rw [kSt, kOf, if_pos hφ, if_pos hφ])
set_option maxHeartbeats 4000000 in
set_option maxRecDepth 100000 in
theorem kL_cutOver (l : Launch) (D : va_G) (ca : Nat → ClassId) (ad : Nat → Nat) (oa : Nat) (f : Nat → Int64) (v : XS) (most : Int32) (nn : Nat) (hn : xc v = nI nn) (hn2 : nn ≤ 1024) (hN : ∀ j, j < nn → vp_in (xN v (nI j).toNatClampNeg) 40) (hlS : l.stackTraces = false) : CH l yL_cutOver cL_cutOver 4 (some .int) [(0, 9, 12, 15), (0, 9, 15, 17)] (KR1 7 152) D ca (ow oa ca f ++ xw ad ca v) [.ref (ad 0), .int most, .ref oa] (some (.int (nI (xfCut v most)))) (ow oa ca (kOf (xfCut v most) f (xc v).toInt64) ++ xw ad ca (kSt (xfCut v most) v (xUp (xPlay v nn) 2))) := by
  refine CH.of (by decide) (Nat.le_of_ble_eq_true rfl) ?_
  intro p e s m below meth c A ls cx hml hr hlk htab hE hI hl
  have hl : lv_has ls 4 [(0, .ref (ad 0)), (1, .int most), (2, .ref oa)] := hl
  refine lv_aload_n cx.1 cx.2.1 dL_cutOver_0 rfl (lv_at hl 2 rfl) ?_
  refine lv_iconst (v := 0) cx.1 cx.2.1 dL_cutOver_1 (by decide) ?_
  refine lv_aload_n cx.1 cx.2.1 dL_cutOver_2 rfl (lv_at hl 0 rfl) ?_
  refine lv_iload_n cx.1 cx.2.1 dL_cutOver_3 rfl (lv_at hl 1 rfl) ?_
  refine k_callX (C := RX0) (T := TX0) (N := 12) (ci := 0) 1 (ow oa ca f) [] cx hE (hl.1.trans hml.symm) (kX0_cutOver l D ca ad v most nn hn hn2 hN hlS) hI (kn2 _ _) (kn2 _ _) xw_ad rfl rfl wk_363 wk_360 wk_361 wk_362 wk_1 ⟨rfl, by decide, by decide, by decide +kernel⟩ rfl ⟨rfl, rfl⟩ ⟨Nat.le_of_ble_eq_true rfl, Nat.le_of_ble_eq_true rfl⟩ (Nat.le_of_ble_eq_true rfl) dL_cutOver_4 ⟨Nat.le_of_ble_eq_true rfl, Nat.le_of_ble_eq_true rfl⟩ rfl (fun E ce q9 H locs hψ hI hq hv hcl => ?_) (fun hφ H locs hI => ?_)
  · rcases hψ with ⟨hf, rfl⟩ | ⟨hf, rfl⟩
    · refine vx_catch (E := "java/lang/IllegalArgumentException") (name := "java/lang/IllegalArgumentException") cx.2.2.1 [] ⟨0, 9, 12, 15⟩ [⟨0, 9, 15, 17⟩] (htab.trans rfl) (fun z hz => nomatch hz) (by decide) (by decide) (cx.2.2.2.1 _ wk_132) (kl_ys hE (by decide)) hq hv hcl ?_
      refine lv_astore_n (lv' := [(3, .ref q9), (0, .ref (ad 0)), (1, .int most), (2, .ref oa)]) cx.1 cx.2.1 dL_cutOver_12 rfl hl (by decide) rfl (fun ls hl => ?_)
      refine lv_iconst (v := 1) cx.1 cx.2.1 dL_cutOver_13 (by decide) ?_
      exact ke_i cx hr hlk hI (Nat.le_refl _) (Nat.le_refl _) dL_cutOver_14 (by rw [hf]; rfl) (by rw [kSt, kOf, if_neg (by rw [hf]; decide), if_neg (by rw [hf]; decide)])
    · refine vx_catch (E := "java/lang/IllegalStateException") (name := "java/lang/IllegalStateException") cx.2.2.1 [⟨0, 9, 12, 15⟩] ⟨0, 9, 15, 17⟩ [] (htab.trans rfl) (fun z hz => by simp only [List.mem_cons, List.not_mem_nil, or_false] at hz; subst hz; exact Or.inr ⟨by decide, "java/lang/IllegalArgumentException", cx.2.2.2.1 _ wk_132, kl_nc hE (by decide) (by decide) (by decide)⟩) (by decide) (by decide) (cx.2.2.2.1 _ wk_133) (kl_ys hE (by decide)) hq hv hcl ?_
      refine lv_astore_n (lv' := [(3, .ref q9), (0, .ref (ad 0)), (1, .int most), (2, .ref oa)]) cx.1 cx.2.1 dL_cutOver_15 rfl hl (by decide) rfl (fun ls hl => ?_)
      refine lv_iconst (v := 2) cx.1 cx.2.1 dL_cutOver_16 (by decide) ?_
      exact ke_i cx hr hlk hI (Nat.le_refl _) (Nat.le_refl _) dL_cutOver_17 (by rw [hf]; rfl) (by rw [kSt, kOf, if_neg (by rw [hf]; decide), if_neg (by rw [hf]; decide)])
  · refine lv_i2l cx.1 cx.2.1 dL_cutOver_7 rfl ?_
    refine kl_st cx hI dL_cutOver_8 (fun H locs hI => ?_)
    refine lv_goto (tgt := 18) cx.1 cx.2.1 dL_cutOver_9 (by decide) ?_
    refine lv_iconst (v := 0) cx.1 cx.2.1 dL_cutOver_18 (by decide) ?_
    exact ke_i cx hr hlk hI (Nat.le_refl _) (Nat.le_refl _) dL_cutOver_19 (by rw [hφ]; rfl) (by rw [kSt, kOf, if_pos hφ, if_pos hφ])
set_option maxHeartbeats 4000000 in
set_option maxRecDepth 100000 in
theorem kL_undo (l : Launch) (D : va_G) (ca : Nat → ClassId) (ad : Nat → Nat) (v : XS) (hlS : l.stackTraces = false) : CH l yL_undo cL_undo 2 (some .int) [(0, 4, 7, 17)] (KR1 7 102) D ca (xw ad ca v) [.ref (ad 0)] (some (.int (nI (xfUndo v)))) (xw ad ca (kSt (xfUndo v) v (xUp v 1))) := by
  refine CH.of (by decide) (Nat.le_of_ble_eq_true rfl) ?_
  intro p e s m below meth c A ls cx hml hr hlk htab hE hI hl
  have hl : lv_has ls 2 [(0, .ref (ad 0))] := hl
  refine lv_aload_n cx.1 cx.2.1 dL_undo_0 rfl (lv_at hl 0 rfl) ?_
  refine k_callX (C := RX0) (T := TX0) (N := 12) (ci := 0) 0 [] [] cx hE (hl.1.trans hml.symm) (kX0_undo l D ca ad v hlS) hI (kn0 _) (kn0 _) xw_ad rfl rfl wk_372 wk_369 wk_370 wk_371 wk_1 ⟨rfl, by decide, by decide, by decide +kernel⟩ rfl ⟨rfl, rfl⟩ ⟨Nat.le_of_ble_eq_true rfl, Nat.le_of_ble_eq_true rfl⟩ (Nat.le_of_ble_eq_true rfl) dL_undo_1 ⟨Nat.le_of_ble_eq_true rfl, Nat.le_of_ble_eq_true rfl⟩ rfl (fun E ce q9 H locs hψ hI hq hv hcl => ?_) (fun hφ H locs hI => ?_)
  · obtain ⟨hf, rfl⟩ := hψ
    refine vx_catch (E := "java/lang/IllegalStateException") (name := "java/lang/IllegalStateException") cx.2.2.1 [] ⟨0, 4, 7, 17⟩ [] (htab.trans rfl) (fun z hz => nomatch hz) (by decide) (by decide) (cx.2.2.2.1 _ wk_133) (kl_ys hE (by decide)) hq hv hcl ?_
    refine lv_astore_n (lv' := [(1, .ref q9), (0, .ref (ad 0))]) cx.1 cx.2.1 dL_undo_7 rfl hl (by decide) rfl (fun ls hl => ?_)
    refine lv_iconst (v := 1) cx.1 cx.2.1 dL_undo_8 (by decide) ?_
    exact ke_i cx hr hlk hI (Nat.le_refl _) (Nat.le_refl _) dL_undo_9 (by rw [hf]; rfl) (by rw [kSt, if_neg (by rw [hf]; decide)])
  · refine lv_goto (tgt := 10) cx.1 cx.2.1 dL_undo_4 (by decide) ?_
    refine lv_iconst (v := 0) cx.1 cx.2.1 dL_undo_10 (by decide) ?_
    exact ke_i cx hr hlk hI (Nat.le_refl _) (Nat.le_refl _) dL_undo_11 (by rw [hφ]; rfl) (by rw [kSt, if_pos hφ])
set_option maxHeartbeats 4000000 in
set_option maxRecDepth 100000 in
theorem kL_finish (l : Launch) (D : va_G) (ca : Nat → ClassId) (ad : Nat → Nat) (oa : Nat) (f : Nat → Int64) (v : XS) (hlS : l.stackTraces = false) : CH l yL_finish cL_finish 3 (some .int) [(0, 8, 11, 17)] (KR1 7 103) D ca (ow oa ca f ++ xw ad ca v) [.ref (ad 0), .ref oa] (some (.int (nI (xfUndo v)))) (ow oa ca (kOf (xfUndo v) f (xRemN v 40).toInt64) ++ xw ad ca (kSt (xfUndo v) v (xEnd (xRem v 40)))) := by
  refine CH.of (by decide) (Nat.le_of_ble_eq_true rfl) ?_
  intro p e s m below meth c A ls cx hml hr hlk htab hE hI hl
  have hl : lv_has ls 3 [(0, .ref (ad 0)), (1, .ref oa)] := hl
  refine lv_aload_n cx.1 cx.2.1 dL_finish_0 rfl (lv_at hl 1 rfl) ?_
  refine lv_iconst (v := 0) cx.1 cx.2.1 dL_finish_1 (by decide) ?_
  refine lv_aload_n cx.1 cx.2.1 dL_finish_2 rfl (lv_at hl 0 rfl) ?_
  refine k_callX (C := RX0) (T := TX0) (N := 12) (ci := 0) 0 (ow oa ca f) [] cx hE (hl.1.trans hml.symm) (kX0_finish l D ca ad v hlS) hI (kn2 _ _) (kn2 _ _) xw_ad rfl rfl wk_380 wk_377 wk_378 wk_379 wk_1 ⟨rfl, by decide, by decide, by decide +kernel⟩ rfl ⟨rfl, rfl⟩ ⟨Nat.le_of_ble_eq_true rfl, Nat.le_of_ble_eq_true rfl⟩ (Nat.le_of_ble_eq_true rfl) dL_finish_3 ⟨Nat.le_of_ble_eq_true rfl, Nat.le_of_ble_eq_true rfl⟩ rfl (fun E ce q9 H locs hψ hI hq hv hcl => ?_) (fun hφ H locs hI => ?_)
  · obtain ⟨hf, rfl⟩ := hψ
    refine vx_catch (E := "java/lang/IllegalStateException") (name := "java/lang/IllegalStateException") cx.2.2.1 [] ⟨0, 8, 11, 17⟩ [] (htab.trans rfl) (fun z hz => nomatch hz) (by decide) (by decide) (cx.2.2.2.1 _ wk_133) (kl_ys hE (by decide)) hq hv hcl ?_
    refine lv_astore_n (lv' := [(2, .ref q9), (0, .ref (ad 0)), (1, .ref oa)]) cx.1 cx.2.1 dL_finish_11 rfl hl (by decide) rfl (fun ls hl => ?_)
    refine lv_iconst (v := 1) cx.1 cx.2.1 dL_finish_12 (by decide) ?_
    exact ke_i cx hr hlk hI (Nat.le_refl _) (Nat.le_refl _) dL_finish_13 (by rw [hf]; rfl) (by rw [kSt, kOf, if_neg (by rw [hf]; decide), if_neg (by rw [hf]; decide)])
  · refine lv_i2l cx.1 cx.2.1 dL_finish_6 rfl ?_
    refine kl_st cx hI dL_finish_7 (fun H locs hI => ?_)
    refine lv_goto (tgt := 14) cx.1 cx.2.1 dL_finish_8 (by decide) ?_
    refine lv_iconst (v := 0) cx.1 cx.2.1 dL_finish_14 (by decide) ?_
    exact ke_i cx hr hlk hI (Nat.le_refl _) (Nat.le_refl _) dL_finish_15 (by rw [hφ]; rfl) (by rw [kSt, kOf, if_pos hφ, if_pos hφ])
set_option maxHeartbeats 4000000 in
set_option maxRecDepth 100000 in
theorem kL_giveUp (l : Launch) (D : va_G) (ca : Nat → ClassId) (ad : Nat → Nat) (oa : Nat) (f : Nat → Int64) (v : XS) (hlS : l.stackTraces = false) : CH l yL_giveUp cL_giveUp 3 (some .int) [(0, 8, 11, 17)] (KR1 7 103) D ca (ow oa ca f ++ xw ad ca v) [.ref (ad 0), .ref oa] (some (.int (nI (xfGive v)))) (ow oa ca (kOf (xfGive v) f (xShRows v 40).toInt64) ++ xw ad ca (kSt (xfGive v) v (xEnd v))) := by
  refine CH.of (by decide) (Nat.le_of_ble_eq_true rfl) ?_
  intro p e s m below meth c A ls cx hml hr hlk htab hE hI hl
  have hl : lv_has ls 3 [(0, .ref (ad 0)), (1, .ref oa)] := hl
  refine lv_aload_n cx.1 cx.2.1 dL_giveUp_0 rfl (lv_at hl 1 rfl) ?_
  refine lv_iconst (v := 0) cx.1 cx.2.1 dL_giveUp_1 (by decide) ?_
  refine lv_aload_n cx.1 cx.2.1 dL_giveUp_2 rfl (lv_at hl 0 rfl) ?_
  refine k_callX (C := RX0) (T := TX0) (N := 12) (ci := 0) 0 (ow oa ca f) [] cx hE (hl.1.trans hml.symm) (kX0_giveUp l D ca ad v hlS) hI (kn2 _ _) (kn2 _ _) xw_ad rfl rfl wk_395 wk_392 wk_393 wk_394 wk_1 ⟨rfl, by decide, by decide, by decide +kernel⟩ rfl ⟨rfl, rfl⟩ ⟨Nat.le_of_ble_eq_true rfl, Nat.le_of_ble_eq_true rfl⟩ (Nat.le_of_ble_eq_true rfl) dL_giveUp_3 ⟨Nat.le_of_ble_eq_true rfl, Nat.le_of_ble_eq_true rfl⟩ rfl (fun E ce q9 H locs hψ hI hq hv hcl => ?_) (fun hφ H locs hI => ?_)
  · obtain ⟨hf, rfl⟩ := hψ
    refine vx_catch (E := "java/lang/IllegalStateException") (name := "java/lang/IllegalStateException") cx.2.2.1 [] ⟨0, 8, 11, 17⟩ [] (htab.trans rfl) (fun z hz => nomatch hz) (by decide) (by decide) (cx.2.2.2.1 _ wk_133) (kl_ys hE (by decide)) hq hv hcl ?_
    refine lv_astore_n (lv' := [(2, .ref q9), (0, .ref (ad 0)), (1, .ref oa)]) cx.1 cx.2.1 dL_giveUp_11 rfl hl (by decide) rfl (fun ls hl => ?_)
    refine lv_iconst (v := 1) cx.1 cx.2.1 dL_giveUp_12 (by decide) ?_
    exact ke_i cx hr hlk hI (Nat.le_refl _) (Nat.le_refl _) dL_giveUp_13 (by rw [hf]; rfl) (by rw [kSt, kOf, if_neg (by rw [hf]; decide), if_neg (by rw [hf]; decide)])
  · refine lv_i2l cx.1 cx.2.1 dL_giveUp_6 rfl ?_
    refine kl_st cx hI dL_giveUp_7 (fun H locs hI => ?_)
    refine lv_goto (tgt := 14) cx.1 cx.2.1 dL_giveUp_8 (by decide) ?_
    refine lv_iconst (v := 0) cx.1 cx.2.1 dL_giveUp_14 (by decide) ?_
    exact ke_i cx hr hlk hI (Nat.le_refl _) (Nat.le_refl _) dL_giveUp_15 (by rw [hφ]; rfl) (by rw [kSt, kOf, if_pos hφ, if_pos hφ])
set_option maxHeartbeats 4000000 in
set_option maxRecDepth 100000 in
theorem kL_row (l : Launch) (D : va_G) (ca : Nat → ClassId) (ad : Nat → Nat) (oa : Nat) (f : Nat → Int64) (v : XS) (key : Int32) (hlS : l.stackTraces = false) : CH l yL_row cL_row 4 (some .int) [(0, 9, 12, 13)] (KR1 7 103) D ca (ow oa ca f ++ xw ad ca v) [.ref (ad 0), .int key, .ref oa] (some (.int (nI (xfKey key)))) (ow oa ca (kOf (xfKey key) f (if xSeen v key then xRow v key else -1).toInt64) ++ xw ad ca (kSt (xfKey key) v v)) := by
  refine CH.of (by decide) (Nat.le_of_ble_eq_true rfl) ?_
  intro p e s m below meth c A ls cx hml hr hlk htab hE hI hl
  have hl : lv_has ls 4 [(0, .ref (ad 0)), (1, .int key), (2, .ref oa)] := hl
  refine lv_aload_n cx.1 cx.2.1 dL_row_0 rfl (lv_at hl 2 rfl) ?_
  refine lv_iconst (v := 0) cx.1 cx.2.1 dL_row_1 (by decide) ?_
  refine lv_aload_n cx.1 cx.2.1 dL_row_2 rfl (lv_at hl 0 rfl) ?_
  refine lv_iload_n cx.1 cx.2.1 dL_row_3 rfl (lv_at hl 1 rfl) ?_
  refine k_callX (C := RX0) (T := TX0) (N := 12) (ci := 0) 1 (ow oa ca f) [] cx hE (hl.1.trans hml.symm) (kX0_row l D ca ad v key hlS) hI (kn2 _ _) (kn2 _ _) xw_ad rfl rfl wk_403 wk_400 wk_401 wk_402 wk_1 ⟨rfl, by decide, by decide, by decide +kernel⟩ rfl ⟨rfl, rfl⟩ ⟨Nat.le_of_ble_eq_true rfl, Nat.le_of_ble_eq_true rfl⟩ (Nat.le_of_ble_eq_true rfl) dL_row_4 ⟨Nat.le_of_ble_eq_true rfl, Nat.le_of_ble_eq_true rfl⟩ rfl (fun E ce q9 H locs hψ hI hq hv hcl => ?_) (fun hφ H locs hI => ?_)
  · obtain ⟨hf, rfl⟩ := hψ
    refine vx_catch (E := "java/lang/IndexOutOfBoundsException") (name := "java/lang/IndexOutOfBoundsException") cx.2.2.1 [] ⟨0, 9, 12, 13⟩ [] (htab.trans rfl) (fun z hz => nomatch hz) (by decide) (by decide) (cx.2.2.2.1 _ wk_131) (kl_ys hE (by decide)) hq hv hcl ?_
    refine lv_astore_n (lv' := [(3, .ref q9), (0, .ref (ad 0)), (1, .int key), (2, .ref oa)]) cx.1 cx.2.1 dL_row_12 rfl hl (by decide) rfl (fun ls hl => ?_)
    refine lv_iconst (v := 1) cx.1 cx.2.1 dL_row_13 (by decide) ?_
    exact ke_i cx hr hlk hI (Nat.le_refl _) (Nat.le_refl _) dL_row_14 (by rw [hf]; rfl) (by rw [kSt, kOf, if_neg (by rw [hf]; decide), if_neg (by rw [hf]; decide)])
  · refine lv_i2l cx.1 cx.2.1 dL_row_7 rfl ?_
    refine kl_st cx hI dL_row_8 (fun H locs hI => ?_)
    refine lv_goto (tgt := 15) cx.1 cx.2.1 dL_row_9 (by decide) ?_
    refine lv_iconst (v := 0) cx.1 cx.2.1 dL_row_15 (by decide) ?_
    exact ke_i cx hr hlk hI (Nat.le_refl _) (Nat.le_refl _) dL_row_16 (by rw [hφ]; rfl) (by rw [kSt, kOf, if_pos hφ, if_pos hφ])
set_option maxHeartbeats 4000000 in
set_option maxRecDepth 100000 in
theorem kL_shadow (l : Launch) (D : va_G) (ca : Nat → ClassId) (ad : Nat → Nat) (oa : Nat) (f : Nat → Int64) (v : XS) (key col : Int32) (hlS : l.stackTraces = false) : CH l yL_shadow cL_shadow 5 (some .int) [(0, 10, 13, 13)] (KR1 7 104) D ca (ow oa ca f ++ xw ad ca v) [.ref (ad 0), .int key, .int col, .ref oa] (some (.int (nI (xfShadow key col)))) (ow oa ca (kOf (xfShadow key col) f (xC v col.toNatClampNeg key.toNatClampNeg).toInt64) ++ xw ad ca (kSt (xfShadow key col) v v)) := by
  refine CH.of (by decide) (Nat.le_of_ble_eq_true rfl) ?_
  intro p e s m below meth c A ls cx hml hr hlk htab hE hI hl
  have hl : lv_has ls 5 [(0, .ref (ad 0)), (1, .int key), (2, .int col), (3, .ref oa)] := hl
  refine lv_aload_n cx.1 cx.2.1 dL_shadow_0 rfl (lv_at hl 3 rfl) ?_
  refine lv_iconst (v := 0) cx.1 cx.2.1 dL_shadow_1 (by decide) ?_
  refine lv_aload_n cx.1 cx.2.1 dL_shadow_2 rfl (lv_at hl 0 rfl) ?_
  refine lv_iload_n cx.1 cx.2.1 dL_shadow_3 rfl (lv_at hl 1 rfl) ?_
  refine lv_iload_n cx.1 cx.2.1 dL_shadow_4 rfl (lv_at hl 2 rfl) ?_
  refine k_callX (C := RX0) (T := TX0) (N := 12) (ci := 0) 2 (ow oa ca f) [] cx hE (hl.1.trans hml.symm) (kX0_shadow l D ca ad v key col hlS) hI (kn2 _ _) (kn2 _ _) xw_ad rfl rfl wk_410 wk_407 wk_408 wk_409 wk_1 ⟨rfl, by decide, by decide, by decide +kernel⟩ rfl ⟨rfl, rfl⟩ ⟨Nat.le_of_ble_eq_true rfl, Nat.le_of_ble_eq_true rfl⟩ (Nat.le_of_ble_eq_true rfl) dL_shadow_5 ⟨Nat.le_of_ble_eq_true rfl, Nat.le_of_ble_eq_true rfl⟩ rfl (fun E ce q9 H locs hψ hI hq hv hcl => ?_) (fun hφ H locs hI => ?_)
  · obtain ⟨hf, rfl⟩ := hψ
    refine vx_catch (E := "java/lang/IndexOutOfBoundsException") (name := "java/lang/IndexOutOfBoundsException") cx.2.2.1 [] ⟨0, 10, 13, 13⟩ [] (htab.trans rfl) (fun z hz => nomatch hz) (by decide) (by decide) (cx.2.2.2.1 _ wk_131) (kl_ys hE (by decide)) hq hv hcl ?_
    refine lv_astore (lv' := [(4, .ref q9), (0, .ref (ad 0)), (1, .int key), (2, .int col), (3, .ref oa)]) cx.1 cx.2.1 dL_shadow_13 hl (by decide) rfl (fun ls hl => ?_)
    refine lv_iconst (v := 1) cx.1 cx.2.1 dL_shadow_15 (by decide) ?_
    exact ke_i cx hr hlk hI (Nat.le_refl _) (Nat.le_refl _) dL_shadow_16 (by rw [hf]; rfl) (by rw [kSt, kOf, if_neg (by rw [hf]; decide), if_neg (by rw [hf]; decide)])
  · refine lv_i2l cx.1 cx.2.1 dL_shadow_8 rfl ?_
    refine kl_st cx hI dL_shadow_9 (fun H locs hI => ?_)
    refine lv_goto (tgt := 17) cx.1 cx.2.1 dL_shadow_10 (by decide) ?_
    refine lv_iconst (v := 0) cx.1 cx.2.1 dL_shadow_17 (by decide) ?_
    exact ke_i cx hr hlk hI (Nat.le_refl _) (Nat.le_refl _) dL_shadow_18 (by rw [hφ]; rfl) (by rw [kSt, kOf, if_pos hφ, if_pos hφ])
set_option maxHeartbeats 4000000 in
set_option maxRecDepth 100000 in
theorem kL_isRefused (l : Launch) (D : va_G) (ca : Nat → ClassId) (ad : Nat → Nat) (oa : Nat) (f : Nat → Int64) (v : XS) (key : Int32) (hz : ∀ j : Nat, narrow .boolean (.int (xR v j)) = .int (xR v j)) (hlS : l.stackTraces = false) : CH l yL_isRefused cL_isRefused 4 (some .int) [(0, 16, 19, 13)] (KR1 7 103) D ca (ow oa ca f ++ xw ad ca v) [.ref (ad 0), .int key, .ref oa] (some (.int (nI (xfKey key)))) (ow oa ca (kOf (xfKey key) f (if xR v key.toNatClampNeg = 0 then 0 else 1)) ++ xw ad ca (kSt (xfKey key) v v)) := by
  refine CH.of (by decide) (Nat.le_of_ble_eq_true rfl) ?_
  intro p e s m below meth c A ls cx hml hr hlk htab hE hI hl
  have hl : lv_has ls 4 [(0, .ref (ad 0)), (1, .int key), (2, .ref oa)] := hl
  refine lv_aload_n cx.1 cx.2.1 dL_isRefused_0 rfl (lv_at hl 2 rfl) ?_
  refine lv_iconst (v := 0) cx.1 cx.2.1 dL_isRefused_1 (by decide) ?_
  refine lv_aload_n cx.1 cx.2.1 dL_isRefused_2 rfl (lv_at hl 0 rfl) ?_
  refine lv_iload_n cx.1 cx.2.1 dL_isRefused_3 rfl (lv_at hl 1 rfl) ?_
  refine k_callX (C := RX0) (T := TX0) (N := 12) (ci := 0) 1 (ow oa ca f) [] cx hE (hl.1.trans hml.symm) (kX0_isRefused l D ca ad v key hz hlS) hI (kn2 _ _) (kn2 _ _) xw_ad rfl rfl wk_421 wk_418 wk_419 wk_420 wk_1 ⟨rfl, by decide, by decide, by decide +kernel⟩ rfl ⟨rfl, rfl⟩ ⟨Nat.le_of_ble_eq_true rfl, Nat.le_of_ble_eq_true rfl⟩ (Nat.le_of_ble_eq_true rfl) dL_isRefused_4 ⟨Nat.le_of_ble_eq_true rfl, Nat.le_of_ble_eq_true rfl⟩ rfl (fun E ce q9 H locs hψ hI hq hv hcl => ?_) (fun hφ H locs hI => ?_)
  · obtain ⟨hf, rfl⟩ := hψ
    refine vx_catch (E := "java/lang/IndexOutOfBoundsException") (name := "java/lang/IndexOutOfBoundsException") cx.2.2.1 [] ⟨0, 16, 19, 13⟩ [] (htab.trans rfl) (fun z hz => nomatch hz) (by decide) (by decide) (cx.2.2.2.1 _ wk_131) (kl_ys hE (by decide)) hq hv hcl ?_
    refine lv_astore_n (lv' := [(3, .ref q9), (0, .ref (ad 0)), (1, .int key), (2, .ref oa)]) cx.1 cx.2.1 dL_isRefused_19 rfl hl (by decide) rfl (fun ls hl => ?_)
    refine lv_iconst (v := 1) cx.1 cx.2.1 dL_isRefused_20 (by decide) ?_
    exact ke_i cx hr hlk hI (Nat.le_refl _) (Nat.le_refl _) dL_isRefused_21 (by rw [hf]; rfl) (by rw [kSt, kOf, if_neg (by rw [hf]; decide), if_neg (by rw [hf]; decide)])
  · refine lv_if_eq (tgt := 14) cx.1 cx.2.1 dL_isRefused_7 (by decide) (fun hz0 => ?_) (fun hz0 => ?_)
    · refine lv_lconst (v := 0) cx.1 cx.2.1 dL_isRefused_14 rfl ?_
      refine kl_st cx hI dL_isRefused_15 (fun H locs hI => ?_)
      refine lv_goto (tgt := 22) cx.1 cx.2.1 dL_isRefused_16 (by decide) ?_
      refine lv_iconst (v := 0) cx.1 cx.2.1 dL_isRefused_22 (by decide) ?_
      exact ke_i cx hr hlk hI (Nat.le_refl _) (Nat.le_refl _) dL_isRefused_23 (by rw [hφ]; rfl) (by rw [kSt, kOf, if_pos hφ, if_pos hφ, if_pos hz0])
    · refine lv_lconst (v := 1) cx.1 cx.2.1 dL_isRefused_10 rfl ?_
      refine lv_goto (tgt := 15) cx.1 cx.2.1 dL_isRefused_11 (by decide) ?_
      refine kl_st cx hI dL_isRefused_15 (fun H locs hI => ?_)
      refine lv_goto (tgt := 22) cx.1 cx.2.1 dL_isRefused_16 (by decide) ?_
      refine lv_iconst (v := 0) cx.1 cx.2.1 dL_isRefused_22 (by decide) ?_
      exact ke_i cx hr hlk hI (Nat.le_refl _) (Nat.le_refl _) dL_isRefused_23 (by rw [hφ]; rfl) (by rw [kSt, kOf, if_pos hφ, if_pos hφ, if_neg hz0])
set_option maxHeartbeats 4000000 in
set_option maxRecDepth 100000 in
theorem kL_sum (l : Launch) (D : va_G) (ca : Nat → ClassId) (ad : Nat → Nat) (oa : Nat) (f : Nat → Int64) (v : XS) (col : Int32) (hlS : l.stackTraces = false) : CH l yL_sum cL_sum 4 (some .int) [(0, 9, 12, 13)] (KR1 7 105) D ca (ow oa ca f ++ xw ad ca v) [.ref (ad 0), .int col, .ref oa] (some (.int (nI (xfCol col)))) (ow oa ca (kOf (xfCol col) f (xSum v col 40).toInt64) ++ xw ad ca (kSt (xfCol col) v v)) := by
  refine CH.of (by decide) (Nat.le_of_ble_eq_true rfl) ?_
  intro p e s m below meth c A ls cx hml hr hlk htab hE hI hl
  have hl : lv_has ls 4 [(0, .ref (ad 0)), (1, .int col), (2, .ref oa)] := hl
  refine lv_aload_n cx.1 cx.2.1 dL_sum_0 rfl (lv_at hl 2 rfl) ?_
  refine lv_iconst (v := 0) cx.1 cx.2.1 dL_sum_1 (by decide) ?_
  refine lv_aload_n cx.1 cx.2.1 dL_sum_2 rfl (lv_at hl 0 rfl) ?_
  refine lv_iload_n cx.1 cx.2.1 dL_sum_3 rfl (lv_at hl 1 rfl) ?_
  refine k_callX (C := RX0) (T := TX0) (N := 12) (ci := 0) 1 (ow oa ca f) [] cx hE (hl.1.trans hml.symm) (kX0_sum l D ca ad v col hlS) hI (kn2 _ _) (kn2 _ _) xw_ad rfl rfl wk_428 wk_425 wk_426 wk_427 wk_1 ⟨rfl, by decide, by decide, by decide +kernel⟩ rfl ⟨rfl, rfl⟩ ⟨Nat.le_of_ble_eq_true rfl, Nat.le_of_ble_eq_true rfl⟩ (Nat.le_of_ble_eq_true rfl) dL_sum_4 ⟨Nat.le_of_ble_eq_true rfl, Nat.le_of_ble_eq_true rfl⟩ rfl (fun E ce q9 H locs hψ hI hq hv hcl => ?_) (fun hφ H locs hI => ?_)
  · obtain ⟨hf, rfl⟩ := hψ
    refine vx_catch (E := "java/lang/IndexOutOfBoundsException") (name := "java/lang/IndexOutOfBoundsException") cx.2.2.1 [] ⟨0, 9, 12, 13⟩ [] (htab.trans rfl) (fun z hz => nomatch hz) (by decide) (by decide) (cx.2.2.2.1 _ wk_131) (kl_ys hE (by decide)) hq hv hcl ?_
    refine lv_astore_n (lv' := [(3, .ref q9), (0, .ref (ad 0)), (1, .int col), (2, .ref oa)]) cx.1 cx.2.1 dL_sum_12 rfl hl (by decide) rfl (fun ls hl => ?_)
    refine lv_iconst (v := 1) cx.1 cx.2.1 dL_sum_13 (by decide) ?_
    exact ke_i cx hr hlk hI (Nat.le_refl _) (Nat.le_refl _) dL_sum_14 (by rw [hf]; rfl) (by rw [kSt, kOf, if_neg (by rw [hf]; decide), if_neg (by rw [hf]; decide)])
  · refine lv_i2l cx.1 cx.2.1 dL_sum_7 rfl ?_
    refine kl_st cx hI dL_sum_8 (fun H locs hI => ?_)
    refine lv_goto (tgt := 15) cx.1 cx.2.1 dL_sum_9 (by decide) ?_
    refine lv_iconst (v := 0) cx.1 cx.2.1 dL_sum_15 (by decide) ?_
    exact ke_i cx hr hlk hI (Nat.le_refl _) (Nat.le_refl _) dL_sum_16 (by rw [hφ]; rfl) (by rw [kSt, kOf, if_pos hφ, if_pos hφ])
set_option maxHeartbeats 4000000 in
set_option maxRecDepth 100000 in
theorem kL_sumAtOnce (l : Launch) (D : va_G) (ca : Nat → ClassId) (ad : Nat → Nat) (oa : Nat) (f : Nat → Int64) (v : XS) (col : Int32) (hlS : l.stackTraces = false) : CH l yL_sumAtOnce cL_sumAtOnce 4 (some .int) [(0, 9, 12, 13)] (KR1 7 110) D ca (ow oa ca f ++ xw ad ca v) [.ref (ad 0), .int col, .ref oa] (some (.int (nI (xfCol col)))) (ow oa ca (kOf (xfCol col) f (if xp v = 0 then 0 else xSumAt v col 40).toInt64) ++ xw ad ca (kSt (xfCol col) v v)) := by
  refine CH.of (by decide) (Nat.le_of_ble_eq_true rfl) ?_
  intro p e s m below meth c A ls cx hml hr hlk htab hE hI hl
  have hl : lv_has ls 4 [(0, .ref (ad 0)), (1, .int col), (2, .ref oa)] := hl
  refine lv_aload_n cx.1 cx.2.1 dL_sumAtOnce_0 rfl (lv_at hl 2 rfl) ?_
  refine lv_iconst (v := 0) cx.1 cx.2.1 dL_sumAtOnce_1 (by decide) ?_
  refine lv_aload_n cx.1 cx.2.1 dL_sumAtOnce_2 rfl (lv_at hl 0 rfl) ?_
  refine lv_iload_n cx.1 cx.2.1 dL_sumAtOnce_3 rfl (lv_at hl 1 rfl) ?_
  refine k_callX (C := RX0) (T := TX0) (N := 12) (ci := 0) 1 (ow oa ca f) [] cx hE (hl.1.trans hml.symm) (kX0_sumAtOnce l D ca ad v col hlS) hI (kn2 _ _) (kn2 _ _) xw_ad rfl rfl wk_436 wk_433 wk_434 wk_435 wk_1 ⟨rfl, by decide, by decide, by decide +kernel⟩ rfl ⟨rfl, rfl⟩ ⟨Nat.le_of_ble_eq_true rfl, Nat.le_of_ble_eq_true rfl⟩ (Nat.le_of_ble_eq_true rfl) dL_sumAtOnce_4 ⟨Nat.le_of_ble_eq_true rfl, Nat.le_of_ble_eq_true rfl⟩ rfl (fun E ce q9 H locs hψ hI hq hv hcl => ?_) (fun hφ H locs hI => ?_)
  · obtain ⟨hf, rfl⟩ := hψ
    refine vx_catch (E := "java/lang/IndexOutOfBoundsException") (name := "java/lang/IndexOutOfBoundsException") cx.2.2.1 [] ⟨0, 9, 12, 13⟩ [] (htab.trans rfl) (fun z hz => nomatch hz) (by decide) (by decide) (cx.2.2.2.1 _ wk_131) (kl_ys hE (by decide)) hq hv hcl ?_
    refine lv_astore_n (lv' := [(3, .ref q9), (0, .ref (ad 0)), (1, .int col), (2, .ref oa)]) cx.1 cx.2.1 dL_sumAtOnce_12 rfl hl (by decide) rfl (fun ls hl => ?_)
    refine lv_iconst (v := 1) cx.1 cx.2.1 dL_sumAtOnce_13 (by decide) ?_
    exact ke_i cx hr hlk hI (Nat.le_refl _) (Nat.le_refl _) dL_sumAtOnce_14 (by rw [hf]; rfl) (by rw [kSt, kOf, if_neg (by rw [hf]; decide), if_neg (by rw [hf]; decide)])
  · refine lv_i2l cx.1 cx.2.1 dL_sumAtOnce_7 rfl ?_
    refine kl_st cx hI dL_sumAtOnce_8 (fun H locs hI => ?_)
    refine lv_goto (tgt := 15) cx.1 cx.2.1 dL_sumAtOnce_9 (by decide) ?_
    refine lv_iconst (v := 0) cx.1 cx.2.1 dL_sumAtOnce_15 (by decide) ?_
    exact ke_i cx hr hlk hI (Nat.le_refl _) (Nat.le_refl _) dL_sumAtOnce_16 (by rw [hφ]; rfl) (by rw [kSt, kOf, if_pos hφ, if_pos hφ])

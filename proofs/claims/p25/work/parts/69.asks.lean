/-! MINE: the law's asking: what the class throws comes back as a number. -/
def zCd (c1 c2 c3 c4 : Int32) (F : Nat) (r : Int32) : Int32 := if F = 0 then r else if F = 1 then c1 else if F = 2 then c2 else if F = 3 then c3 else c4
theorem zCd_0 (c1 c2 c3 c4 : Int32) {F : Nat} (h : F = 0) (r : Int32) : zCd c1 c2 c3 c4 F r = r := if_pos h
theorem zCd_1 (c1 c2 c3 c4 : Int32) {F : Nat} (h : F = 1) (r : Int32) : zCd c1 c2 c3 c4 F r = c1 := by subst h; rfl
theorem zCd_2 (c1 c2 c3 c4 : Int32) {F : Nat} (h : F = 2) (r : Int32) : zCd c1 c2 c3 c4 F r = c2 := by subst h; rfl
theorem zCd_3 (c1 c2 c3 c4 : Int32) {F : Nat} (h : F = 3) (r : Int32) : zCd c1 c2 c3 c4 F r = c3 := by subst h; rfl
theorem zCd_4 (c1 c2 c3 c4 : Int32) {F : Nat} (h : F = 4) (r : Int32) : zCd c1 c2 c3 c4 F r = c4 := by subst h; rfl
theorem kSt_0 {F : Nat} (h : F = 0) (v v' : XS) : kSt F v v' = v' := if_pos h
theorem kSt_n {F : Nat} (h : F ≠ 0) (v v' : XS) : kSt F v v' = v := if_neg h
def CA (l : Launch) (D : va_G) (ca : Nat → ClassId) (ad : Nat → Nat) (v : XS) (what key a b r : Int32) (v' : XS) : Prop := CH l yL_asks cL_asks 6 (some .int) [(0, 101, 102, 54), (0, 101, 107, 56), (0, 101, 112, 58)] (KR1 8 176) D ca (xw ad ca v) [.ref (ad 0), .int what, .int key, .int a, .int b] (some (.int r)) (xw ad ca v')
theorem kl_nc {A : Nat → Prop} {s : State} (hE : KE A s s.heap) {E F : String} (h1 : E ∈ kexs) (h2 : F ∈ kexs) (h : E ≠ F) : va_Nc E F s := hE.2.2.2.2 E h1 F h2 h
theorem kl_ys {A : Nat → Prop} {s : State} {args : Array Value} (hE : KE A s s.heap) {E : String} (h1 : Cond.castable E E ∈ kws) : (Cond.castable E E).before args s = true := va_Nw.use rfl (hE.2.2.2.1 _ h1)
set_option maxHeartbeats 4000000 in
set_option maxRecDepth 100000 in
theorem kL_writes0 (l : Launch) (D : va_G) (ca : Nat → ClassId) (ad : Nat → Nat) (v : XS) (key a b : Int32) (h0 : ¬ xc v < 0) (hlS : l.stackTraces = false) : CX l yL_writes cL_writes 5 (some .int) (KR1 7 152) D ca (xw ad ca v) [.ref (ad 0), .int 0, .int key, .int a, .int b] (xfInsert v key a b = 0) (some (.int 0)) (xw ad ca (xFollow (xPut v key a b) key)) (fun E => (xfInsert v key a b = 1 ∧ E = "java/lang/IndexOutOfBoundsException") ∨ (xfInsert v key a b = 2 ∧ E = "java/lang/IllegalArgumentException") ∨ (xfInsert v key a b = 3 ∧ E = "java/lang/IllegalStateException")) := by
  refine CX.of (by decide) (Nat.le_of_ble_eq_true rfl) ?_
  intro p e s m below meth c A ls cx hml hr hlk htab hE hI hl
  have hl : lv_has ls 5 [(0, .ref (ad 0)), (1, .int 0), (2, .int key), (3, .int a), (4, .int b)] := hl
  refine lv_iload_n cx.1 cx.2.1 dL_writes_0 rfl (lv_at hl 1 rfl) ?_
  refine lv_if_ne (tgt := 15) cx.1 cx.2.1 dL_writes_1 (by decide) (fun h9 => absurd (by decide) h9) (fun _ => ?_)
  refine lv_aload_n cx.1 cx.2.1 dL_writes_4 rfl (lv_at hl 0 rfl) ?_
  refine lv_iload_n cx.1 cx.2.1 dL_writes_5 rfl (lv_at hl 2 rfl) ?_
  refine lv_iload_n cx.1 cx.2.1 dL_writes_6 rfl (lv_at hl 3 rfl) ?_
  refine lv_iload cx.1 cx.2.1 dL_writes_7 (lv_at hl 4 rfl) ?_
  refine k_callX (C := RX0) (T := TX0) (N := 12) (ci := 0) 3 [] [] cx hE (hl.1.trans hml.symm) (kX0_insert l D ca ad v key a b h0 hlS) hI (kn0 _) (kn0 _) xw_ad rfl rfl wk_223 wk_220 wk_221 wk_222 wk_1 ⟨rfl, by decide, by decide, by decide +kernel⟩ rfl ⟨rfl, rfl⟩ ⟨Nat.le_of_ble_eq_true rfl, Nat.le_of_ble_eq_true rfl⟩ (Nat.le_of_ble_eq_true rfl) dL_writes_9 ⟨Nat.le_of_ble_eq_true rfl, Nat.le_of_ble_eq_true rfl⟩ rfl (fun E ce q9 H locs hψ hI hq hv hcl => ?_) (fun hφ H locs hI => ?_)
  · exact kx_out htab hlk hI hψ hq hv hcl (Nat.le_of_ble_eq_true rfl) (Nat.le_of_ble_eq_true rfl)
  · refine lv_goto (tgt := 37) cx.1 cx.2.1 dL_writes_12 (by decide) ?_
    refine lv_iconst (v := 0) cx.1 cx.2.1 dL_writes_37 (by decide) ?_
    exact ke_x hφ (ke_i cx hr hlk hI (Nat.le_of_ble_eq_true rfl) (Nat.le_of_ble_eq_true rfl) dL_writes_38 rfl rfl)
set_option maxHeartbeats 4000000 in
set_option maxRecDepth 100000 in
theorem kL_asks0 (l : Launch) (D : va_G) (ca : Nat → ClassId) (ad : Nat → Nat) (v : XS) (key a b : Int32) (h0 : ¬ xc v < 0) (hne : xfInsert v key a b ≠ 1) (hlS : l.stackTraces = false) : CA l D ca ad v 0 key a b (zCd 0 (-9) (-8) 0 (xfInsert v key a b) (0)) (kSt (xfInsert v key a b) v (xFollow (xPut v key a b) key)) := by
  refine CH.of (by decide) (Nat.le_of_ble_eq_true rfl) ?_
  intro p e s m below meth c A ls cx hml hr hlk htab hE hI hl
  have hl : lv_has ls 6 [(0, .ref (ad 0)), (1, .int 0), (2, .int key), (3, .int a), (4, .int b)] := hl
  refine lv_iload_n cx.1 cx.2.1 dL_asks_0 rfl (lv_at hl 1 rfl) ?_
  refine lv_iconst (v := 3) cx.1 cx.2.1 dL_asks_1 (by decide) ?_
  refine lv_icmp_ge (tgt := 17) cx.1 cx.2.1 dL_asks_2 (by decide) (fun h9 => absurd h9 (by decide)) (fun _ => ?_)
  refine lv_aload_n cx.1 cx.2.1 dL_asks_5 rfl (lv_at hl 0 rfl) ?_
  refine lv_iload_n cx.1 cx.2.1 dL_asks_6 rfl (lv_at hl 1 rfl) ?_
  refine lv_iload_n cx.1 cx.2.1 dL_asks_7 rfl (lv_at hl 2 rfl) ?_
  refine lv_iload_n cx.1 cx.2.1 dL_asks_8 rfl (lv_at hl 3 rfl) ?_
  refine lv_iload cx.1 cx.2.1 dL_asks_9 (lv_at hl 4 rfl) ?_
  refine k_callXS 5 cx hE (hl.1.trans hml.symm) (kL_writes0 l D ca ad v key a b h0 hlS) hI xw_ad wk_219 wk_217 wk_218 wk_0 ⟨by decide, by decide, by decide +kernel⟩ rfl ⟨rfl, rfl⟩ ⟨Nat.le_of_ble_eq_true rfl, Nat.le_of_ble_eq_true rfl⟩ (Nat.le_of_ble_eq_true rfl) dL_asks_11 ⟨Nat.le_of_ble_eq_true rfl, Nat.le_of_ble_eq_true rfl⟩ rfl (fun E ce q9 H locs hψ hI hq hv hcl => ?_) (fun hφ H locs hI => ?_)
  · rcases hψ with ⟨hf, rfl⟩ | ⟨hf, rfl⟩ | ⟨hf, rfl⟩
    · exact absurd hf hne
    · refine vx_catch (E := "java/lang/IllegalArgumentException") (name := "java/lang/IllegalArgumentException") cx.2.2.1 [] ⟨0, 101, 102, 54⟩ [⟨0, 101, 107, 56⟩, ⟨0, 101, 112, 58⟩] (htab.trans rfl) (fun z hz => nomatch hz) (by decide) (by decide) (cx.2.2.2.1 _ wk_214) (kl_ys hE (by decide)) hq hv hcl ?_
      refine lv_astore (lv' := [(5, .ref q9), (0, .ref (ad 0)), (1, .int 0), (2, .int key), (3, .int a), (4, .int b)]) cx.1 cx.2.1 dL_asks_102 hl (by decide) rfl (fun ls hl => ?_)
      refine lv_bipush (v := (-9)) cx.1 cx.2.1 dL_asks_104 (by decide) ?_
      exact ke_i cx hr hlk hI (Nat.le_refl _) (Nat.le_refl _) dL_asks_106 (congrArg (fun z => some (Value.int z)) (zCd_2 _ _ _ _ hf _).symm) (congrArg (xw ad ca) (kSt_n (by rw [hf]; decide) _ _).symm)
    · refine vx_catch (E := "java/lang/IllegalStateException") (name := "java/lang/IllegalStateException") cx.2.2.1 [⟨0, 101, 102, 54⟩] ⟨0, 101, 107, 56⟩ [⟨0, 101, 112, 58⟩] (htab.trans rfl) (fun z hz => by simp only [List.mem_cons, List.not_mem_nil, or_false] at hz; subst hz; exact Or.inr ⟨by decide, "java/lang/IllegalArgumentException", cx.2.2.2.1 _ wk_214, kl_nc hE (by decide) (by decide) (by decide)⟩) (by decide) (by decide) (cx.2.2.2.1 _ wk_215) (kl_ys hE (by decide)) hq hv hcl ?_
      refine lv_astore (lv' := [(5, .ref q9), (0, .ref (ad 0)), (1, .int 0), (2, .int key), (3, .int a), (4, .int b)]) cx.1 cx.2.1 dL_asks_107 hl (by decide) rfl (fun ls hl => ?_)
      refine lv_bipush (v := (-8)) cx.1 cx.2.1 dL_asks_109 (by decide) ?_
      exact ke_i cx hr hlk hI (Nat.le_refl _) (Nat.le_refl _) dL_asks_111 (congrArg (fun z => some (Value.int z)) (zCd_3 _ _ _ _ hf _).symm) (congrArg (xw ad ca) (kSt_n (by rw [hf]; decide) _ _).symm)
  · refine lv_goto (tgt := 101) cx.1 cx.2.1 dL_asks_14 (by decide) ?_
    exact ke_i cx hr hlk hI (Nat.le_refl _) (Nat.le_refl _) dL_asks_101 (congrArg (fun z => some (Value.int z)) (zCd_0 _ _ _ _ hφ _).symm) (congrArg (xw ad ca) (kSt_0 hφ _ _).symm)
set_option maxHeartbeats 4000000 in
set_option maxRecDepth 100000 in
theorem kL_writes1 (l : Launch) (D : va_G) (ca : Nat → ClassId) (ad : Nat → Nat) (v : XS) (key a b : Int32) (h0 : ¬ xc v < 0) (hlS : l.stackTraces = false) : CX l yL_writes cL_writes 5 (some .int) (KR1 7 152) D ca (xw ad ca v) [.ref (ad 0), .int 1, .int key, .int a, .int b] (xfUpdate v key a b = 0) (some (.int 0)) (xw ad ca (xFollow (xPut v key a b) key)) (fun E => (xfUpdate v key a b = 1 ∧ E = "java/lang/IndexOutOfBoundsException") ∨ (xfUpdate v key a b = 2 ∧ E = "java/lang/IllegalArgumentException") ∨ (xfUpdate v key a b = 3 ∧ E = "java/util/NoSuchElementException")) := by
  refine CX.of (by decide) (Nat.le_of_ble_eq_true rfl) ?_
  intro p e s m below meth c A ls cx hml hr hlk htab hE hI hl
  have hl : lv_has ls 5 [(0, .ref (ad 0)), (1, .int 1), (2, .int key), (3, .int a), (4, .int b)] := hl
  refine lv_iload_n cx.1 cx.2.1 dL_writes_0 rfl (lv_at hl 1 rfl) ?_
  refine lv_if_ne (tgt := 15) cx.1 cx.2.1 dL_writes_1 (by decide) (fun _ => ?_) (fun h9 => absurd h9 (by decide))
  refine lv_iload_n cx.1 cx.2.1 dL_writes_15 rfl (lv_at hl 1 rfl) ?_
  refine lv_iconst (v := 1) cx.1 cx.2.1 dL_writes_16 (by decide) ?_
  refine lv_icmp_ne (tgt := 31) cx.1 cx.2.1 dL_writes_17 (by decide) (fun h9 => absurd (by decide) h9) (fun _ => ?_)
  refine lv_aload_n cx.1 cx.2.1 dL_writes_20 rfl (lv_at hl 0 rfl) ?_
  refine lv_iload_n cx.1 cx.2.1 dL_writes_21 rfl (lv_at hl 2 rfl) ?_
  refine lv_iload_n cx.1 cx.2.1 dL_writes_22 rfl (lv_at hl 3 rfl) ?_
  refine lv_iload cx.1 cx.2.1 dL_writes_23 (lv_at hl 4 rfl) ?_
  refine k_callX (C := RX0) (T := TX0) (N := 12) (ci := 0) 3 [] [] cx hE (hl.1.trans hml.symm) (kX0_update l D ca ad v key a b h0 hlS) hI (kn0 _) (kn0 _) xw_ad rfl rfl wk_284 wk_281 wk_282 wk_283 wk_1 ⟨rfl, by decide, by decide, by decide +kernel⟩ rfl ⟨rfl, rfl⟩ ⟨Nat.le_of_ble_eq_true rfl, Nat.le_of_ble_eq_true rfl⟩ (Nat.le_of_ble_eq_true rfl) dL_writes_25 ⟨Nat.le_of_ble_eq_true rfl, Nat.le_of_ble_eq_true rfl⟩ rfl (fun E ce q9 H locs hψ hI hq hv hcl => ?_) (fun hφ H locs hI => ?_)
  · exact kx_out htab hlk hI hψ hq hv hcl (Nat.le_of_ble_eq_true rfl) (Nat.le_of_ble_eq_true rfl)
  · refine lv_goto (tgt := 37) cx.1 cx.2.1 dL_writes_28 (by decide) ?_
    refine lv_iconst (v := 0) cx.1 cx.2.1 dL_writes_37 (by decide) ?_
    exact ke_x hφ (ke_i cx hr hlk hI (Nat.le_of_ble_eq_true rfl) (Nat.le_of_ble_eq_true rfl) dL_writes_38 rfl rfl)
set_option maxHeartbeats 4000000 in
set_option maxRecDepth 100000 in
theorem kL_asks1 (l : Launch) (D : va_G) (ca : Nat → ClassId) (ad : Nat → Nat) (v : XS) (key a b : Int32) (h0 : ¬ xc v < 0) (hne : xfUpdate v key a b ≠ 1) (hlS : l.stackTraces = false) : CA l D ca ad v 1 key a b (zCd 0 (-9) (-10) 0 (xfUpdate v key a b) (0)) (kSt (xfUpdate v key a b) v (xFollow (xPut v key a b) key)) := by
  refine CH.of (by decide) (Nat.le_of_ble_eq_true rfl) ?_
  intro p e s m below meth c A ls cx hml hr hlk htab hE hI hl
  have hl : lv_has ls 6 [(0, .ref (ad 0)), (1, .int 1), (2, .int key), (3, .int a), (4, .int b)] := hl
  refine lv_iload_n cx.1 cx.2.1 dL_asks_0 rfl (lv_at hl 1 rfl) ?_
  refine lv_iconst (v := 3) cx.1 cx.2.1 dL_asks_1 (by decide) ?_
  refine lv_icmp_ge (tgt := 17) cx.1 cx.2.1 dL_asks_2 (by decide) (fun h9 => absurd h9 (by decide)) (fun _ => ?_)
  refine lv_aload_n cx.1 cx.2.1 dL_asks_5 rfl (lv_at hl 0 rfl) ?_
  refine lv_iload_n cx.1 cx.2.1 dL_asks_6 rfl (lv_at hl 1 rfl) ?_
  refine lv_iload_n cx.1 cx.2.1 dL_asks_7 rfl (lv_at hl 2 rfl) ?_
  refine lv_iload_n cx.1 cx.2.1 dL_asks_8 rfl (lv_at hl 3 rfl) ?_
  refine lv_iload cx.1 cx.2.1 dL_asks_9 (lv_at hl 4 rfl) ?_
  refine k_callXS 5 cx hE (hl.1.trans hml.symm) (kL_writes1 l D ca ad v key a b h0 hlS) hI xw_ad wk_219 wk_217 wk_218 wk_0 ⟨by decide, by decide, by decide +kernel⟩ rfl ⟨rfl, rfl⟩ ⟨Nat.le_of_ble_eq_true rfl, Nat.le_of_ble_eq_true rfl⟩ (Nat.le_of_ble_eq_true rfl) dL_asks_11 ⟨Nat.le_of_ble_eq_true rfl, Nat.le_of_ble_eq_true rfl⟩ rfl (fun E ce q9 H locs hψ hI hq hv hcl => ?_) (fun hφ H locs hI => ?_)
  · rcases hψ with ⟨hf, rfl⟩ | ⟨hf, rfl⟩ | ⟨hf, rfl⟩
    · exact absurd hf hne
    · refine vx_catch (E := "java/lang/IllegalArgumentException") (name := "java/lang/IllegalArgumentException") cx.2.2.1 [] ⟨0, 101, 102, 54⟩ [⟨0, 101, 107, 56⟩, ⟨0, 101, 112, 58⟩] (htab.trans rfl) (fun z hz => nomatch hz) (by decide) (by decide) (cx.2.2.2.1 _ wk_214) (kl_ys hE (by decide)) hq hv hcl ?_
      refine lv_astore (lv' := [(5, .ref q9), (0, .ref (ad 0)), (1, .int 1), (2, .int key), (3, .int a), (4, .int b)]) cx.1 cx.2.1 dL_asks_102 hl (by decide) rfl (fun ls hl => ?_)
      refine lv_bipush (v := (-9)) cx.1 cx.2.1 dL_asks_104 (by decide) ?_
      exact ke_i cx hr hlk hI (Nat.le_refl _) (Nat.le_refl _) dL_asks_106 (congrArg (fun z => some (Value.int z)) (zCd_2 _ _ _ _ hf _).symm) (congrArg (xw ad ca) (kSt_n (by rw [hf]; decide) _ _).symm)
    · refine vx_catch (E := "java/util/NoSuchElementException") (name := "java/util/NoSuchElementException") cx.2.2.1 [⟨0, 101, 102, 54⟩, ⟨0, 101, 107, 56⟩] ⟨0, 101, 112, 58⟩ [] (htab.trans rfl) (fun z hz => by simp only [List.mem_cons, List.not_mem_nil, or_false] at hz; rcases hz with rfl | rfl <;> first | (exact Or.inr ⟨by decide, "java/lang/IllegalArgumentException", cx.2.2.2.1 _ wk_214, kl_nc hE (by decide) (by decide) (by decide)⟩) | (exact Or.inr ⟨by decide, "java/lang/IllegalStateException", cx.2.2.2.1 _ wk_215, kl_nc hE (by decide) (by decide) (by decide)⟩)) (by decide) (by decide) (cx.2.2.2.1 _ wk_216) (kl_ys hE (by decide)) hq hv hcl ?_
      refine lv_astore (lv' := [(5, .ref q9), (0, .ref (ad 0)), (1, .int 1), (2, .int key), (3, .int a), (4, .int b)]) cx.1 cx.2.1 dL_asks_112 hl (by decide) rfl (fun ls hl => ?_)
      refine lv_bipush (v := (-10)) cx.1 cx.2.1 dL_asks_114 (by decide) ?_
      exact ke_i cx hr hlk hI (Nat.le_refl _) (Nat.le_refl _) dL_asks_116 (congrArg (fun z => some (Value.int z)) (zCd_3 _ _ _ _ hf _).symm) (congrArg (xw ad ca) (kSt_n (by rw [hf]; decide) _ _).symm)
  · refine lv_goto (tgt := 101) cx.1 cx.2.1 dL_asks_14 (by decide) ?_
    exact ke_i cx hr hlk hI (Nat.le_refl _) (Nat.le_refl _) dL_asks_101 (congrArg (fun z => some (Value.int z)) (zCd_0 _ _ _ _ hφ _).symm) (congrArg (xw ad ca) (kSt_0 hφ _ _).symm)
set_option maxHeartbeats 4000000 in
set_option maxRecDepth 100000 in
theorem kL_writes2 (l : Launch) (D : va_G) (ca : Nat → ClassId) (ad : Nat → Nat) (v : XS) (key a b : Int32) (h0 : ¬ xc v < 0) (hlS : l.stackTraces = false) : CX l yL_writes cL_writes 5 (some .int) (KR1 7 152) D ca (xw ad ca v) [.ref (ad 0), .int 2, .int key, .int a, .int b] (xfRekey v key a = 0) (some (.int 0)) (xw ad ca (xRekey v key a)) (fun E => (xfRekey v key a = 1 ∧ E = "java/lang/IndexOutOfBoundsException") ∨ (xfRekey v key a = 2 ∧ E = "java/lang/IllegalArgumentException") ∨ (xfRekey v key a = 3 ∧ E = "java/util/NoSuchElementException") ∨ (xfRekey v key a = 4 ∧ E = "java/lang/IllegalStateException")) := by
  refine CX.of (by decide) (Nat.le_of_ble_eq_true rfl) ?_
  intro p e s m below meth c A ls cx hml hr hlk htab hE hI hl
  have hl : lv_has ls 5 [(0, .ref (ad 0)), (1, .int 2), (2, .int key), (3, .int a), (4, .int b)] := hl
  refine lv_iload_n cx.1 cx.2.1 dL_writes_0 rfl (lv_at hl 1 rfl) ?_
  refine lv_if_ne (tgt := 15) cx.1 cx.2.1 dL_writes_1 (by decide) (fun _ => ?_) (fun h9 => absurd h9 (by decide))
  refine lv_iload_n cx.1 cx.2.1 dL_writes_15 rfl (lv_at hl 1 rfl) ?_
  refine lv_iconst (v := 1) cx.1 cx.2.1 dL_writes_16 (by decide) ?_
  refine lv_icmp_ne (tgt := 31) cx.1 cx.2.1 dL_writes_17 (by decide) (fun _ => ?_) (fun h9 => absurd h9 (by decide))
  refine lv_aload_n cx.1 cx.2.1 dL_writes_31 rfl (lv_at hl 0 rfl) ?_
  refine lv_iload_n cx.1 cx.2.1 dL_writes_32 rfl (lv_at hl 2 rfl) ?_
  refine lv_iload_n cx.1 cx.2.1 dL_writes_33 rfl (lv_at hl 3 rfl) ?_
  refine k_callX (C := RX0) (T := TX0) (N := 12) (ci := 0) 2 [] [] cx hE (hl.1.trans hml.symm) (kX0_rekey l D ca ad v key a h0 hlS) hI (kn0 _) (kn0 _) xw_ad rfl rfl wk_304 wk_301 wk_302 wk_303 wk_1 ⟨rfl, by decide, by decide, by decide +kernel⟩ rfl ⟨rfl, rfl⟩ ⟨Nat.le_of_ble_eq_true rfl, Nat.le_of_ble_eq_true rfl⟩ (Nat.le_of_ble_eq_true rfl) dL_writes_34 ⟨Nat.le_of_ble_eq_true rfl, Nat.le_of_ble_eq_true rfl⟩ rfl (fun E ce q9 H locs hψ hI hq hv hcl => ?_) (fun hφ H locs hI => ?_)
  · exact kx_out htab hlk hI hψ hq hv hcl (Nat.le_of_ble_eq_true rfl) (Nat.le_of_ble_eq_true rfl)
  · refine lv_iconst (v := 0) cx.1 cx.2.1 dL_writes_37 (by decide) ?_
    exact ke_x hφ (ke_i cx hr hlk hI (Nat.le_of_ble_eq_true rfl) (Nat.le_of_ble_eq_true rfl) dL_writes_38 rfl rfl)
set_option maxHeartbeats 4000000 in
set_option maxRecDepth 100000 in
theorem kL_asks2 (l : Launch) (D : va_G) (ca : Nat → ClassId) (ad : Nat → Nat) (v : XS) (key a b : Int32) (h0 : ¬ xc v < 0) (hne : xfRekey v key a ≠ 1) (hlS : l.stackTraces = false) : CA l D ca ad v 2 key a b (zCd 0 (-9) (-10) (-8) (xfRekey v key a) (0)) (kSt (xfRekey v key a) v (xRekey v key a)) := by
  refine CH.of (by decide) (Nat.le_of_ble_eq_true rfl) ?_
  intro p e s m below meth c A ls cx hml hr hlk htab hE hI hl
  have hl : lv_has ls 6 [(0, .ref (ad 0)), (1, .int 2), (2, .int key), (3, .int a), (4, .int b)] := hl
  refine lv_iload_n cx.1 cx.2.1 dL_asks_0 rfl (lv_at hl 1 rfl) ?_
  refine lv_iconst (v := 3) cx.1 cx.2.1 dL_asks_1 (by decide) ?_
  refine lv_icmp_ge (tgt := 17) cx.1 cx.2.1 dL_asks_2 (by decide) (fun h9 => absurd h9 (by decide)) (fun _ => ?_)
  refine lv_aload_n cx.1 cx.2.1 dL_asks_5 rfl (lv_at hl 0 rfl) ?_
  refine lv_iload_n cx.1 cx.2.1 dL_asks_6 rfl (lv_at hl 1 rfl) ?_
  refine lv_iload_n cx.1 cx.2.1 dL_asks_7 rfl (lv_at hl 2 rfl) ?_
  refine lv_iload_n cx.1 cx.2.1 dL_asks_8 rfl (lv_at hl 3 rfl) ?_
  refine lv_iload cx.1 cx.2.1 dL_asks_9 (lv_at hl 4 rfl) ?_
  refine k_callXS 5 cx hE (hl.1.trans hml.symm) (kL_writes2 l D ca ad v key a b h0 hlS) hI xw_ad wk_219 wk_217 wk_218 wk_0 ⟨by decide, by decide, by decide +kernel⟩ rfl ⟨rfl, rfl⟩ ⟨Nat.le_of_ble_eq_true rfl, Nat.le_of_ble_eq_true rfl⟩ (Nat.le_of_ble_eq_true rfl) dL_asks_11 ⟨Nat.le_of_ble_eq_true rfl, Nat.le_of_ble_eq_true rfl⟩ rfl (fun E ce q9 H locs hψ hI hq hv hcl => ?_) (fun hφ H locs hI => ?_)
  · rcases hψ with ⟨hf, rfl⟩ | ⟨hf, rfl⟩ | ⟨hf, rfl⟩ | ⟨hf, rfl⟩
    · exact absurd hf hne
    · refine vx_catch (E := "java/lang/IllegalArgumentException") (name := "java/lang/IllegalArgumentException") cx.2.2.1 [] ⟨0, 101, 102, 54⟩ [⟨0, 101, 107, 56⟩, ⟨0, 101, 112, 58⟩] (htab.trans rfl) (fun z hz => nomatch hz) (by decide) (by decide) (cx.2.2.2.1 _ wk_214) (kl_ys hE (by decide)) hq hv hcl ?_
      refine lv_astore (lv' := [(5, .ref q9), (0, .ref (ad 0)), (1, .int 2), (2, .int key), (3, .int a), (4, .int b)]) cx.1 cx.2.1 dL_asks_102 hl (by decide) rfl (fun ls hl => ?_)
      refine lv_bipush (v := (-9)) cx.1 cx.2.1 dL_asks_104 (by decide) ?_
      exact ke_i cx hr hlk hI (Nat.le_refl _) (Nat.le_refl _) dL_asks_106 (congrArg (fun z => some (Value.int z)) (zCd_2 _ _ _ _ hf _).symm) (congrArg (xw ad ca) (kSt_n (by rw [hf]; decide) _ _).symm)
    · refine vx_catch (E := "java/util/NoSuchElementException") (name := "java/util/NoSuchElementException") cx.2.2.1 [⟨0, 101, 102, 54⟩, ⟨0, 101, 107, 56⟩] ⟨0, 101, 112, 58⟩ [] (htab.trans rfl) (fun z hz => by simp only [List.mem_cons, List.not_mem_nil, or_false] at hz; rcases hz with rfl | rfl <;> first | (exact Or.inr ⟨by decide, "java/lang/IllegalArgumentException", cx.2.2.2.1 _ wk_214, kl_nc hE (by decide) (by decide) (by decide)⟩) | (exact Or.inr ⟨by decide, "java/lang/IllegalStateException", cx.2.2.2.1 _ wk_215, kl_nc hE (by decide) (by decide) (by decide)⟩)) (by decide) (by decide) (cx.2.2.2.1 _ wk_216) (kl_ys hE (by decide)) hq hv hcl ?_
      refine lv_astore (lv' := [(5, .ref q9), (0, .ref (ad 0)), (1, .int 2), (2, .int key), (3, .int a), (4, .int b)]) cx.1 cx.2.1 dL_asks_112 hl (by decide) rfl (fun ls hl => ?_)
      refine lv_bipush (v := (-10)) cx.1 cx.2.1 dL_asks_114 (by decide) ?_
      exact ke_i cx hr hlk hI (Nat.le_refl _) (Nat.le_refl _) dL_asks_116 (congrArg (fun z => some (Value.int z)) (zCd_3 _ _ _ _ hf _).symm) (congrArg (xw ad ca) (kSt_n (by rw [hf]; decide) _ _).symm)
    · refine vx_catch (E := "java/lang/IllegalStateException") (name := "java/lang/IllegalStateException") cx.2.2.1 [⟨0, 101, 102, 54⟩] ⟨0, 101, 107, 56⟩ [⟨0, 101, 112, 58⟩] (htab.trans rfl) (fun z hz => by simp only [List.mem_cons, List.not_mem_nil, or_false] at hz; subst hz; exact Or.inr ⟨by decide, "java/lang/IllegalArgumentException", cx.2.2.2.1 _ wk_214, kl_nc hE (by decide) (by decide) (by decide)⟩) (by decide) (by decide) (cx.2.2.2.1 _ wk_215) (kl_ys hE (by decide)) hq hv hcl ?_
      refine lv_astore (lv' := [(5, .ref q9), (0, .ref (ad 0)), (1, .int 2), (2, .int key), (3, .int a), (4, .int b)]) cx.1 cx.2.1 dL_asks_107 hl (by decide) rfl (fun ls hl => ?_)
      refine lv_bipush (v := (-8)) cx.1 cx.2.1 dL_asks_109 (by decide) ?_
      exact ke_i cx hr hlk hI (Nat.le_refl _) (Nat.le_refl _) dL_asks_111 (congrArg (fun z => some (Value.int z)) (zCd_4 _ _ _ _ hf _).symm) (congrArg (xw ad ca) (kSt_n (by rw [hf]; decide) _ _).symm)
  · refine lv_goto (tgt := 101) cx.1 cx.2.1 dL_asks_14 (by decide) ?_
    exact ke_i cx hr hlk hI (Nat.le_refl _) (Nat.le_refl _) dL_asks_101 (congrArg (fun z => some (Value.int z)) (zCd_0 _ _ _ _ hφ _).symm) (congrArg (xw ad ca) (kSt_0 hφ _ _).symm)
set_option maxHeartbeats 4000000 in
set_option maxRecDepth 100000 in
theorem kL_asks3 (l : Launch) (D : va_G) (ca : Nat → ClassId) (ad : Nat → Nat) (v : XS) (key a b : Int32) (h0 : ¬ xc v < 0) (hne : xfDelete v key ≠ 1) (hlS : l.stackTraces = false) : CA l D ca ad v 3 key a b (zCd 0 (-10) 0 0 (xfDelete v key) (xRow v key)) (kSt (xfDelete v key) v (xFollow (xPut v key (-1) (-1)) key)) := by
  refine CH.of (by decide) (Nat.le_of_ble_eq_true rfl) ?_
  intro p e s m below meth c A ls cx hml hr hlk htab hE hI hl
  have hl : lv_has ls 6 [(0, .ref (ad 0)), (1, .int 3), (2, .int key), (3, .int a), (4, .int b)] := hl
  refine lv_iload_n cx.1 cx.2.1 dL_asks_0 rfl (lv_at hl 1 rfl) ?_
  refine lv_iconst (v := 3) cx.1 cx.2.1 dL_asks_1 (by decide) ?_
  refine lv_icmp_ge (tgt := 17) cx.1 cx.2.1 dL_asks_2 (by decide) (fun _ => ?_) (fun h9 => absurd (by decide) h9)
  refine lv_iload_n cx.1 cx.2.1 dL_asks_17 rfl (lv_at hl 1 rfl) ?_
  refine lv_iconst (v := 3) cx.1 cx.2.1 dL_asks_18 (by decide) ?_
  refine lv_icmp_ne (tgt := 30) cx.1 cx.2.1 dL_asks_19 (by decide) (fun h9 => absurd (by decide) h9) (fun _ => ?_)
  refine lv_aload_n cx.1 cx.2.1 dL_asks_22 rfl (lv_at hl 0 rfl) ?_
  refine lv_iload_n cx.1 cx.2.1 dL_asks_23 rfl (lv_at hl 2 rfl) ?_
  refine k_callX (C := RX0) (T := TX0) (N := 12) (ci := 0) 1 [] [] cx hE (hl.1.trans hml.symm) (kX0_delete l D ca ad v key h0 hlS) hI (kn0 _) (kn0 _) xw_ad rfl rfl wk_321 wk_318 wk_319 wk_320 wk_1 ⟨rfl, by decide, by decide, by decide +kernel⟩ rfl ⟨rfl, rfl⟩ ⟨Nat.le_of_ble_eq_true rfl, Nat.le_of_ble_eq_true rfl⟩ (Nat.le_of_ble_eq_true rfl) dL_asks_24 ⟨Nat.le_of_ble_eq_true rfl, Nat.le_of_ble_eq_true rfl⟩ rfl (fun E ce q9 H locs hψ hI hq hv hcl => ?_) (fun hφ H locs hI => ?_)
  · rcases hψ with ⟨hf, rfl⟩ | ⟨hf, rfl⟩
    · exact absurd hf hne
    · refine vx_catch (E := "java/util/NoSuchElementException") (name := "java/util/NoSuchElementException") cx.2.2.1 [⟨0, 101, 102, 54⟩, ⟨0, 101, 107, 56⟩] ⟨0, 101, 112, 58⟩ [] (htab.trans rfl) (fun z hz => by simp only [List.mem_cons, List.not_mem_nil, or_false] at hz; rcases hz with rfl | rfl <;> first | (exact Or.inr ⟨by decide, "java/lang/IllegalArgumentException", cx.2.2.2.1 _ wk_214, kl_nc hE (by decide) (by decide) (by decide)⟩) | (exact Or.inr ⟨by decide, "java/lang/IllegalStateException", cx.2.2.2.1 _ wk_215, kl_nc hE (by decide) (by decide) (by decide)⟩)) (by decide) (by decide) (cx.2.2.2.1 _ wk_216) (kl_ys hE (by decide)) hq hv hcl ?_
      refine lv_astore (lv' := [(5, .ref q9), (0, .ref (ad 0)), (1, .int 3), (2, .int key), (3, .int a), (4, .int b)]) cx.1 cx.2.1 dL_asks_112 hl (by decide) rfl (fun ls hl => ?_)
      refine lv_bipush (v := (-10)) cx.1 cx.2.1 dL_asks_114 (by decide) ?_
      exact ke_i cx hr hlk hI (Nat.le_refl _) (Nat.le_refl _) dL_asks_116 (congrArg (fun z => some (Value.int z)) (zCd_2 _ _ _ _ hf _).symm) (congrArg (xw ad ca) (kSt_n (by rw [hf]; decide) _ _).symm)
  · refine lv_goto (tgt := 101) cx.1 cx.2.1 dL_asks_27 (by decide) ?_
    exact ke_i cx hr hlk hI (Nat.le_refl _) (Nat.le_refl _) dL_asks_101 (congrArg (fun z => some (Value.int z)) (zCd_0 _ _ _ _ hφ _).symm) (congrArg (xw ad ca) (kSt_0 hφ _ _).symm)
set_option maxHeartbeats 4000000 in
set_option maxRecDepth 100000 in
theorem kL_asks4 (l : Launch) (D : va_G) (ca : Nat → ClassId) (ad : Nat → Nat) (v : XS) (key a b : Int32) (mk n cn nn : Nat) (hm : xm v = nI mk) (he : ¬ (40 : Int32) ≤ xm v → xCopyE v = nI (mk + n)) (hle : ¬ (40 : Int32) ≤ xm v → mk + n ≤ 40) (hc : kMin (xk v) (xc v) = nI cn) (hn : xc v = nI nn) (hcn : cn ≤ nn) (hn2 : nn ≤ 1024) (hN : ∀ j, j < cn → vp_in (xN v (nI j).toNatClampNeg) 40) (hlS : l.stackTraces = false) : CA l D ca ad v 4 key a b (zCd (-9) (-8) 0 0 (xfTick v key) (if key ≤ xl v then (if 40 ≤ xm v then kMin (xk v) (xc v) else xCopyE v - xm v) else 0)) (kSt (xfTick v key) v (if key ≤ xl v then (if 40 ≤ xm v then xPlay v cn else xCopy v mk n) else v)) := by
  refine CH.of (by decide) (Nat.le_of_ble_eq_true rfl) ?_
  intro p e s m below meth c A ls cx hml hr hlk htab hE hI hl
  have hl : lv_has ls 6 [(0, .ref (ad 0)), (1, .int 4), (2, .int key), (3, .int a), (4, .int b)] := hl
  refine lv_iload_n cx.1 cx.2.1 dL_asks_0 rfl (lv_at hl 1 rfl) ?_
  refine lv_iconst (v := 3) cx.1 cx.2.1 dL_asks_1 (by decide) ?_
  refine lv_icmp_ge (tgt := 17) cx.1 cx.2.1 dL_asks_2 (by decide) (fun _ => ?_) (fun h9 => absurd (by decide) h9)
  refine lv_iload_n cx.1 cx.2.1 dL_asks_17 rfl (lv_at hl 1 rfl) ?_
  refine lv_iconst (v := 3) cx.1 cx.2.1 dL_asks_18 (by decide) ?_
  refine lv_icmp_ne (tgt := 30) cx.1 cx.2.1 dL_asks_19 (by decide) (fun _ => ?_) (fun h9 => absurd h9 (by decide))
  refine lv_iload_n cx.1 cx.2.1 dL_asks_30 rfl (lv_at hl 1 rfl) ?_
  refine lv_iconst (v := 4) cx.1 cx.2.1 dL_asks_31 (by decide) ?_
  refine lv_icmp_ne (tgt := 43) cx.1 cx.2.1 dL_asks_32 (by decide) (fun h9 => absurd (by decide) h9) (fun _ => ?_)
  refine lv_aload_n cx.1 cx.2.1 dL_asks_35 rfl (lv_at hl 0 rfl) ?_
  refine lv_iload_n cx.1 cx.2.1 dL_asks_36 rfl (lv_at hl 2 rfl) ?_
  refine k_callX (C := RX0) (T := TX0) (N := 12) (ci := 0) 1 [] [] cx hE (hl.1.trans hml.symm) (kX0_tick l D ca ad v key mk n cn nn hm he hle hc hn hcn hn2 hN hlS) hI (kn0 _) (kn0 _) xw_ad rfl rfl wk_329 wk_326 wk_327 wk_328 wk_1 ⟨rfl, by decide, by decide, by decide +kernel⟩ rfl ⟨rfl, rfl⟩ ⟨Nat.le_of_ble_eq_true rfl, Nat.le_of_ble_eq_true rfl⟩ (Nat.le_of_ble_eq_true rfl) dL_asks_37 ⟨Nat.le_of_ble_eq_true rfl, Nat.le_of_ble_eq_true rfl⟩ rfl (fun E ce q9 H locs hψ hI hq hv hcl => ?_) (fun hφ H locs hI => ?_)
  · rcases hψ with ⟨hf, rfl⟩ | ⟨hf, rfl⟩
    · refine vx_catch (E := "java/lang/IllegalArgumentException") (name := "java/lang/IllegalArgumentException") cx.2.2.1 [] ⟨0, 101, 102, 54⟩ [⟨0, 101, 107, 56⟩, ⟨0, 101, 112, 58⟩] (htab.trans rfl) (fun z hz => nomatch hz) (by decide) (by decide) (cx.2.2.2.1 _ wk_214) (kl_ys hE (by decide)) hq hv hcl ?_
      refine lv_astore (lv' := [(5, .ref q9), (0, .ref (ad 0)), (1, .int 4), (2, .int key), (3, .int a), (4, .int b)]) cx.1 cx.2.1 dL_asks_102 hl (by decide) rfl (fun ls hl => ?_)
      refine lv_bipush (v := (-9)) cx.1 cx.2.1 dL_asks_104 (by decide) ?_
      exact ke_i cx hr hlk hI (Nat.le_refl _) (Nat.le_refl _) dL_asks_106 (congrArg (fun z => some (Value.int z)) (zCd_1 _ _ _ _ hf _).symm) (congrArg (xw ad ca) (kSt_n (by rw [hf]; decide) _ _).symm)
    · refine vx_catch (E := "java/lang/IllegalStateException") (name := "java/lang/IllegalStateException") cx.2.2.1 [⟨0, 101, 102, 54⟩] ⟨0, 101, 107, 56⟩ [⟨0, 101, 112, 58⟩] (htab.trans rfl) (fun z hz => by simp only [List.mem_cons, List.not_mem_nil, or_false] at hz; subst hz; exact Or.inr ⟨by decide, "java/lang/IllegalArgumentException", cx.2.2.2.1 _ wk_214, kl_nc hE (by decide) (by decide) (by decide)⟩) (by decide) (by decide) (cx.2.2.2.1 _ wk_215) (kl_ys hE (by decide)) hq hv hcl ?_
      refine lv_astore (lv' := [(5, .ref q9), (0, .ref (ad 0)), (1, .int 4), (2, .int key), (3, .int a), (4, .int b)]) cx.1 cx.2.1 dL_asks_107 hl (by decide) rfl (fun ls hl => ?_)
      refine lv_bipush (v := (-8)) cx.1 cx.2.1 dL_asks_109 (by decide) ?_
      exact ke_i cx hr hlk hI (Nat.le_refl _) (Nat.le_refl _) dL_asks_111 (congrArg (fun z => some (Value.int z)) (zCd_2 _ _ _ _ hf _).symm) (congrArg (xw ad ca) (kSt_n (by rw [hf]; decide) _ _).symm)
  · refine lv_goto (tgt := 101) cx.1 cx.2.1 dL_asks_40 (by decide) ?_
    exact ke_i cx hr hlk hI (Nat.le_refl _) (Nat.le_refl _) dL_asks_101 (congrArg (fun z => some (Value.int z)) (zCd_0 _ _ _ _ hφ _).symm) (congrArg (xw ad ca) (kSt_0 hφ _ _).symm)
set_option maxHeartbeats 4000000 in
set_option maxRecDepth 100000 in
theorem kL_asks5 (l : Launch) (D : va_G) (ca : Nat → ClassId) (ad : Nat → Nat) (v : XS) (key a b : Int32) (nn : Nat) (hn : xc v = nI nn) (hn2 : nn ≤ 1024) (hN : ∀ j, j < nn → vp_in (xN v (nI j).toNatClampNeg) 40) (hlS : l.stackTraces = false) : CA l D ca ad v 5 key a b (zCd (-9) (-8) 0 0 (xfCut v key) (xc v)) (kSt (xfCut v key) v (xUp (xPlay v nn) 2)) := by
  refine CH.of (by decide) (Nat.le_of_ble_eq_true rfl) ?_
  intro p e s m below meth c A ls cx hml hr hlk htab hE hI hl
  have hl : lv_has ls 6 [(0, .ref (ad 0)), (1, .int 5), (2, .int key), (3, .int a), (4, .int b)] := hl
  refine lv_iload_n cx.1 cx.2.1 dL_asks_0 rfl (lv_at hl 1 rfl) ?_
  refine lv_iconst (v := 3) cx.1 cx.2.1 dL_asks_1 (by decide) ?_
  refine lv_icmp_ge (tgt := 17) cx.1 cx.2.1 dL_asks_2 (by decide) (fun _ => ?_) (fun h9 => absurd (by decide) h9)
  refine lv_iload_n cx.1 cx.2.1 dL_asks_17 rfl (lv_at hl 1 rfl) ?_
  refine lv_iconst (v := 3) cx.1 cx.2.1 dL_asks_18 (by decide) ?_
  refine lv_icmp_ne (tgt := 30) cx.1 cx.2.1 dL_asks_19 (by decide) (fun _ => ?_) (fun h9 => absurd h9 (by decide))
  refine lv_iload_n cx.1 cx.2.1 dL_asks_30 rfl (lv_at hl 1 rfl) ?_
  refine lv_iconst (v := 4) cx.1 cx.2.1 dL_asks_31 (by decide) ?_
  refine lv_icmp_ne (tgt := 43) cx.1 cx.2.1 dL_asks_32 (by decide) (fun _ => ?_) (fun h9 => absurd h9 (by decide))
  refine lv_iload_n cx.1 cx.2.1 dL_asks_43 rfl (lv_at hl 1 rfl) ?_
  refine lv_iconst (v := 5) cx.1 cx.2.1 dL_asks_44 (by decide) ?_
  refine lv_icmp_ne (tgt := 56) cx.1 cx.2.1 dL_asks_45 (by decide) (fun h9 => absurd (by decide) h9) (fun _ => ?_)
  refine lv_aload_n cx.1 cx.2.1 dL_asks_48 rfl (lv_at hl 0 rfl) ?_
  refine lv_iload_n cx.1 cx.2.1 dL_asks_49 rfl (lv_at hl 2 rfl) ?_
  refine k_callX (C := RX0) (T := TX0) (N := 12) (ci := 0) 1 [] [] cx hE (hl.1.trans hml.symm) (kX0_cutOver l D ca ad v key nn hn hn2 hN hlS) hI (kn0 _) (kn0 _) xw_ad rfl rfl wk_346 wk_343 wk_344 wk_345 wk_1 ⟨rfl, by decide, by decide, by decide +kernel⟩ rfl ⟨rfl, rfl⟩ ⟨Nat.le_of_ble_eq_true rfl, Nat.le_of_ble_eq_true rfl⟩ (Nat.le_of_ble_eq_true rfl) dL_asks_50 ⟨Nat.le_of_ble_eq_true rfl, Nat.le_of_ble_eq_true rfl⟩ rfl (fun E ce q9 H locs hψ hI hq hv hcl => ?_) (fun hφ H locs hI => ?_)
  · rcases hψ with ⟨hf, rfl⟩ | ⟨hf, rfl⟩
    · refine vx_catch (E := "java/lang/IllegalArgumentException") (name := "java/lang/IllegalArgumentException") cx.2.2.1 [] ⟨0, 101, 102, 54⟩ [⟨0, 101, 107, 56⟩, ⟨0, 101, 112, 58⟩] (htab.trans rfl) (fun z hz => nomatch hz) (by decide) (by decide) (cx.2.2.2.1 _ wk_214) (kl_ys hE (by decide)) hq hv hcl ?_
      refine lv_astore (lv' := [(5, .ref q9), (0, .ref (ad 0)), (1, .int 5), (2, .int key), (3, .int a), (4, .int b)]) cx.1 cx.2.1 dL_asks_102 hl (by decide) rfl (fun ls hl => ?_)
      refine lv_bipush (v := (-9)) cx.1 cx.2.1 dL_asks_104 (by decide) ?_
      exact ke_i cx hr hlk hI (Nat.le_refl _) (Nat.le_refl _) dL_asks_106 (congrArg (fun z => some (Value.int z)) (zCd_1 _ _ _ _ hf _).symm) (congrArg (xw ad ca) (kSt_n (by rw [hf]; decide) _ _).symm)
    · refine vx_catch (E := "java/lang/IllegalStateException") (name := "java/lang/IllegalStateException") cx.2.2.1 [⟨0, 101, 102, 54⟩] ⟨0, 101, 107, 56⟩ [⟨0, 101, 112, 58⟩] (htab.trans rfl) (fun z hz => by simp only [List.mem_cons, List.not_mem_nil, or_false] at hz; subst hz; exact Or.inr ⟨by decide, "java/lang/IllegalArgumentException", cx.2.2.2.1 _ wk_214, kl_nc hE (by decide) (by decide) (by decide)⟩) (by decide) (by decide) (cx.2.2.2.1 _ wk_215) (kl_ys hE (by decide)) hq hv hcl ?_
      refine lv_astore (lv' := [(5, .ref q9), (0, .ref (ad 0)), (1, .int 5), (2, .int key), (3, .int a), (4, .int b)]) cx.1 cx.2.1 dL_asks_107 hl (by decide) rfl (fun ls hl => ?_)
      refine lv_bipush (v := (-8)) cx.1 cx.2.1 dL_asks_109 (by decide) ?_
      exact ke_i cx hr hlk hI (Nat.le_refl _) (Nat.le_refl _) dL_asks_111 (congrArg (fun z => some (Value.int z)) (zCd_2 _ _ _ _ hf _).symm) (congrArg (xw ad ca) (kSt_n (by rw [hf]; decide) _ _).symm)
  · refine lv_goto (tgt := 101) cx.1 cx.2.1 dL_asks_53 (by decide) ?_
    exact ke_i cx hr hlk hI (Nat.le_refl _) (Nat.le_refl _) dL_asks_101 (congrArg (fun z => some (Value.int z)) (zCd_0 _ _ _ _ hφ _).symm) (congrArg (xw ad ca) (kSt_0 hφ _ _).symm)
set_option maxHeartbeats 4000000 in
set_option maxRecDepth 100000 in
theorem kL_asks6 (l : Launch) (D : va_G) (ca : Nat → ClassId) (ad : Nat → Nat) (v : XS) (key a b : Int32) (hlS : l.stackTraces = false) : CA l D ca ad v 6 key a b (zCd (-8) 0 0 0 (xfUndo v) (xRemN v 40)) (kSt (xfUndo v) v (xEnd (xRem v 40))) := by
  refine CH.of (by decide) (Nat.le_of_ble_eq_true rfl) ?_
  intro p e s m below meth c A ls cx hml hr hlk htab hE hI hl
  have hl : lv_has ls 6 [(0, .ref (ad 0)), (1, .int 6), (2, .int key), (3, .int a), (4, .int b)] := hl
  refine lv_iload_n cx.1 cx.2.1 dL_asks_0 rfl (lv_at hl 1 rfl) ?_
  refine lv_iconst (v := 3) cx.1 cx.2.1 dL_asks_1 (by decide) ?_
  refine lv_icmp_ge (tgt := 17) cx.1 cx.2.1 dL_asks_2 (by decide) (fun _ => ?_) (fun h9 => absurd (by decide) h9)
  refine lv_iload_n cx.1 cx.2.1 dL_asks_17 rfl (lv_at hl 1 rfl) ?_
  refine lv_iconst (v := 3) cx.1 cx.2.1 dL_asks_18 (by decide) ?_
  refine lv_icmp_ne (tgt := 30) cx.1 cx.2.1 dL_asks_19 (by decide) (fun _ => ?_) (fun h9 => absurd h9 (by decide))
  refine lv_iload_n cx.1 cx.2.1 dL_asks_30 rfl (lv_at hl 1 rfl) ?_
  refine lv_iconst (v := 4) cx.1 cx.2.1 dL_asks_31 (by decide) ?_
  refine lv_icmp_ne (tgt := 43) cx.1 cx.2.1 dL_asks_32 (by decide) (fun _ => ?_) (fun h9 => absurd h9 (by decide))
  refine lv_iload_n cx.1 cx.2.1 dL_asks_43 rfl (lv_at hl 1 rfl) ?_
  refine lv_iconst (v := 5) cx.1 cx.2.1 dL_asks_44 (by decide) ?_
  refine lv_icmp_ne (tgt := 56) cx.1 cx.2.1 dL_asks_45 (by decide) (fun _ => ?_) (fun h9 => absurd h9 (by decide))
  refine lv_iload_n cx.1 cx.2.1 dL_asks_56 rfl (lv_at hl 1 rfl) ?_
  refine lv_bipush (v := 6) cx.1 cx.2.1 dL_asks_57 (by decide) ?_
  refine lv_icmp_ne (tgt := 69) cx.1 cx.2.1 dL_asks_59 (by decide) (fun h9 => absurd (by decide) h9) (fun _ => ?_)
  refine lv_aload_n cx.1 cx.2.1 dL_asks_62 rfl (lv_at hl 0 rfl) ?_
  refine k_callX (C := RX0) (T := TX0) (N := 12) (ci := 0) 0 [] [] cx hE (hl.1.trans hml.symm) (kX0_finish l D ca ad v hlS) hI (kn0 _) (kn0 _) xw_ad rfl rfl wk_352 wk_349 wk_350 wk_351 wk_1 ⟨rfl, by decide, by decide, by decide +kernel⟩ rfl ⟨rfl, rfl⟩ ⟨Nat.le_of_ble_eq_true rfl, Nat.le_of_ble_eq_true rfl⟩ (Nat.le_of_ble_eq_true rfl) dL_asks_63 ⟨Nat.le_of_ble_eq_true rfl, Nat.le_of_ble_eq_true rfl⟩ rfl (fun E ce q9 H locs hψ hI hq hv hcl => ?_) (fun hφ H locs hI => ?_)
  · obtain ⟨hf, rfl⟩ := hψ
    refine vx_catch (E := "java/lang/IllegalStateException") (name := "java/lang/IllegalStateException") cx.2.2.1 [⟨0, 101, 102, 54⟩] ⟨0, 101, 107, 56⟩ [⟨0, 101, 112, 58⟩] (htab.trans rfl) (fun z hz => by simp only [List.mem_cons, List.not_mem_nil, or_false] at hz; subst hz; exact Or.inr ⟨by decide, "java/lang/IllegalArgumentException", cx.2.2.2.1 _ wk_214, kl_nc hE (by decide) (by decide) (by decide)⟩) (by decide) (by decide) (cx.2.2.2.1 _ wk_215) (kl_ys hE (by decide)) hq hv hcl ?_
    refine lv_astore (lv' := [(5, .ref q9), (0, .ref (ad 0)), (1, .int 6), (2, .int key), (3, .int a), (4, .int b)]) cx.1 cx.2.1 dL_asks_107 hl (by decide) rfl (fun ls hl => ?_)
    refine lv_bipush (v := (-8)) cx.1 cx.2.1 dL_asks_109 (by decide) ?_
    exact ke_i cx hr hlk hI (Nat.le_refl _) (Nat.le_refl _) dL_asks_111 (congrArg (fun z => some (Value.int z)) (zCd_1 _ _ _ _ hf _).symm) (congrArg (xw ad ca) (kSt_n (by rw [hf]; decide) _ _).symm)
  · refine lv_goto (tgt := 101) cx.1 cx.2.1 dL_asks_66 (by decide) ?_
    exact ke_i cx hr hlk hI (Nat.le_refl _) (Nat.le_refl _) dL_asks_101 (congrArg (fun z => some (Value.int z)) (zCd_0 _ _ _ _ hφ _).symm) (congrArg (xw ad ca) (kSt_0 hφ _ _).symm)
set_option maxHeartbeats 4000000 in
set_option maxRecDepth 100000 in
theorem kL_asks7 (l : Launch) (D : va_G) (ca : Nat → ClassId) (ad : Nat → Nat) (v : XS) (key a b : Int32) (hlS : l.stackTraces = false) : CA l D ca ad v 7 key a b (zCd (-8) 0 0 0 (xfGive v) (xShRows v 40)) (kSt (xfGive v) v (xEnd v)) := by
  refine CH.of (by decide) (Nat.le_of_ble_eq_true rfl) ?_
  intro p e s m below meth c A ls cx hml hr hlk htab hE hI hl
  have hl : lv_has ls 6 [(0, .ref (ad 0)), (1, .int 7), (2, .int key), (3, .int a), (4, .int b)] := hl
  refine lv_iload_n cx.1 cx.2.1 dL_asks_0 rfl (lv_at hl 1 rfl) ?_
  refine lv_iconst (v := 3) cx.1 cx.2.1 dL_asks_1 (by decide) ?_
  refine lv_icmp_ge (tgt := 17) cx.1 cx.2.1 dL_asks_2 (by decide) (fun _ => ?_) (fun h9 => absurd (by decide) h9)
  refine lv_iload_n cx.1 cx.2.1 dL_asks_17 rfl (lv_at hl 1 rfl) ?_
  refine lv_iconst (v := 3) cx.1 cx.2.1 dL_asks_18 (by decide) ?_
  refine lv_icmp_ne (tgt := 30) cx.1 cx.2.1 dL_asks_19 (by decide) (fun _ => ?_) (fun h9 => absurd h9 (by decide))
  refine lv_iload_n cx.1 cx.2.1 dL_asks_30 rfl (lv_at hl 1 rfl) ?_
  refine lv_iconst (v := 4) cx.1 cx.2.1 dL_asks_31 (by decide) ?_
  refine lv_icmp_ne (tgt := 43) cx.1 cx.2.1 dL_asks_32 (by decide) (fun _ => ?_) (fun h9 => absurd h9 (by decide))
  refine lv_iload_n cx.1 cx.2.1 dL_asks_43 rfl (lv_at hl 1 rfl) ?_
  refine lv_iconst (v := 5) cx.1 cx.2.1 dL_asks_44 (by decide) ?_
  refine lv_icmp_ne (tgt := 56) cx.1 cx.2.1 dL_asks_45 (by decide) (fun _ => ?_) (fun h9 => absurd h9 (by decide))
  refine lv_iload_n cx.1 cx.2.1 dL_asks_56 rfl (lv_at hl 1 rfl) ?_
  refine lv_bipush (v := 6) cx.1 cx.2.1 dL_asks_57 (by decide) ?_
  refine lv_icmp_ne (tgt := 69) cx.1 cx.2.1 dL_asks_59 (by decide) (fun _ => ?_) (fun h9 => absurd h9 (by decide))
  refine lv_iload_n cx.1 cx.2.1 dL_asks_69 rfl (lv_at hl 1 rfl) ?_
  refine lv_bipush (v := 7) cx.1 cx.2.1 dL_asks_70 (by decide) ?_
  refine lv_icmp_ne (tgt := 82) cx.1 cx.2.1 dL_asks_72 (by decide) (fun h9 => absurd (by decide) h9) (fun _ => ?_)
  refine lv_aload_n cx.1 cx.2.1 dL_asks_75 rfl (lv_at hl 0 rfl) ?_
  refine k_callX (C := RX0) (T := TX0) (N := 12) (ci := 0) 0 [] [] cx hE (hl.1.trans hml.symm) (kX0_giveUp l D ca ad v hlS) hI (kn0 _) (kn0 _) xw_ad rfl rfl wk_365 wk_362 wk_363 wk_364 wk_1 ⟨rfl, by decide, by decide, by decide +kernel⟩ rfl ⟨rfl, rfl⟩ ⟨Nat.le_of_ble_eq_true rfl, Nat.le_of_ble_eq_true rfl⟩ (Nat.le_of_ble_eq_true rfl) dL_asks_76 ⟨Nat.le_of_ble_eq_true rfl, Nat.le_of_ble_eq_true rfl⟩ rfl (fun E ce q9 H locs hψ hI hq hv hcl => ?_) (fun hφ H locs hI => ?_)
  · obtain ⟨hf, rfl⟩ := hψ
    refine vx_catch (E := "java/lang/IllegalStateException") (name := "java/lang/IllegalStateException") cx.2.2.1 [⟨0, 101, 102, 54⟩] ⟨0, 101, 107, 56⟩ [⟨0, 101, 112, 58⟩] (htab.trans rfl) (fun z hz => by simp only [List.mem_cons, List.not_mem_nil, or_false] at hz; subst hz; exact Or.inr ⟨by decide, "java/lang/IllegalArgumentException", cx.2.2.2.1 _ wk_214, kl_nc hE (by decide) (by decide) (by decide)⟩) (by decide) (by decide) (cx.2.2.2.1 _ wk_215) (kl_ys hE (by decide)) hq hv hcl ?_
    refine lv_astore (lv' := [(5, .ref q9), (0, .ref (ad 0)), (1, .int 7), (2, .int key), (3, .int a), (4, .int b)]) cx.1 cx.2.1 dL_asks_107 hl (by decide) rfl (fun ls hl => ?_)
    refine lv_bipush (v := (-8)) cx.1 cx.2.1 dL_asks_109 (by decide) ?_
    exact ke_i cx hr hlk hI (Nat.le_refl _) (Nat.le_refl _) dL_asks_111 (congrArg (fun z => some (Value.int z)) (zCd_1 _ _ _ _ hf _).symm) (congrArg (xw ad ca) (kSt_n (by rw [hf]; decide) _ _).symm)
  · refine lv_goto (tgt := 101) cx.1 cx.2.1 dL_asks_79 (by decide) ?_
    exact ke_i cx hr hlk hI (Nat.le_refl _) (Nat.le_refl _) dL_asks_101 (congrArg (fun z => some (Value.int z)) (zCd_0 _ _ _ _ hφ _).symm) (congrArg (xw ad ca) (kSt_0 hφ _ _).symm)
set_option maxHeartbeats 4000000 in
set_option maxRecDepth 100000 in
theorem kL_undoes8 (l : Launch) (D : va_G) (ca : Nat → ClassId) (ad : Nat → Nat) (v : XS)  (hlS : l.stackTraces = false) : CX l yL_undoes cL_undoes 1 (some .int) (KR1 7 102) D ca (xw ad ca v) [.ref (ad 0)] (xfUndo v = 0) (some (.int 0)) (xw ad ca (xUp v 1)) (fun E => (xfUndo v = 1 ∧ E = "java/lang/IllegalStateException")) := by
  refine CX.of (by decide) (Nat.le_of_ble_eq_true rfl) ?_
  intro p e s m below meth c A ls cx hml hr hlk htab hE hI hl
  have hl : lv_has ls 1 [(0, .ref (ad 0))] := hl
  refine lv_aload_n cx.1 cx.2.1 dL_undoes_0 rfl (lv_at hl 0 rfl) ?_
  refine k_callX (C := RX0) (T := TX0) (N := 12) (ci := 0) 0 [] [] cx hE (hl.1.trans hml.symm) (kX0_undo l D ca ad v hlS) hI (kn0 _) (kn0 _) xw_ad rfl rfl wk_373 wk_370 wk_371 wk_372 wk_1 ⟨rfl, by decide, by decide, by decide +kernel⟩ rfl ⟨rfl, rfl⟩ ⟨Nat.le_of_ble_eq_true rfl, Nat.le_of_ble_eq_true rfl⟩ (Nat.le_of_ble_eq_true rfl) dL_undoes_1 ⟨Nat.le_of_ble_eq_true rfl, Nat.le_of_ble_eq_true rfl⟩ rfl (fun E ce q9 H locs hψ hI hq hv hcl => ?_) (fun hφ H locs hI => ?_)
  · exact kx_out htab hlk hI hψ hq hv hcl (Nat.le_of_ble_eq_true rfl) (Nat.le_of_ble_eq_true rfl)
  · refine lv_iconst (v := 0) cx.1 cx.2.1 dL_undoes_4 (by decide) ?_
    exact ke_x hφ (ke_i cx hr hlk hI (Nat.le_of_ble_eq_true rfl) (Nat.le_of_ble_eq_true rfl) dL_undoes_5 rfl rfl)
set_option maxHeartbeats 4000000 in
set_option maxRecDepth 100000 in
theorem kL_asks8 (l : Launch) (D : va_G) (ca : Nat → ClassId) (ad : Nat → Nat) (v : XS) (key a b : Int32) (hlS : l.stackTraces = false) : CA l D ca ad v 8 key a b (zCd (-8) 0 0 0 (xfUndo v) (0)) (kSt (xfUndo v) v (xUp v 1)) := by
  refine CH.of (by decide) (Nat.le_of_ble_eq_true rfl) ?_
  intro p e s m below meth c A ls cx hml hr hlk htab hE hI hl
  have hl : lv_has ls 6 [(0, .ref (ad 0)), (1, .int 8), (2, .int key), (3, .int a), (4, .int b)] := hl
  refine lv_iload_n cx.1 cx.2.1 dL_asks_0 rfl (lv_at hl 1 rfl) ?_
  refine lv_iconst (v := 3) cx.1 cx.2.1 dL_asks_1 (by decide) ?_
  refine lv_icmp_ge (tgt := 17) cx.1 cx.2.1 dL_asks_2 (by decide) (fun _ => ?_) (fun h9 => absurd (by decide) h9)
  refine lv_iload_n cx.1 cx.2.1 dL_asks_17 rfl (lv_at hl 1 rfl) ?_
  refine lv_iconst (v := 3) cx.1 cx.2.1 dL_asks_18 (by decide) ?_
  refine lv_icmp_ne (tgt := 30) cx.1 cx.2.1 dL_asks_19 (by decide) (fun _ => ?_) (fun h9 => absurd h9 (by decide))
  refine lv_iload_n cx.1 cx.2.1 dL_asks_30 rfl (lv_at hl 1 rfl) ?_
  refine lv_iconst (v := 4) cx.1 cx.2.1 dL_asks_31 (by decide) ?_
  refine lv_icmp_ne (tgt := 43) cx.1 cx.2.1 dL_asks_32 (by decide) (fun _ => ?_) (fun h9 => absurd h9 (by decide))
  refine lv_iload_n cx.1 cx.2.1 dL_asks_43 rfl (lv_at hl 1 rfl) ?_
  refine lv_iconst (v := 5) cx.1 cx.2.1 dL_asks_44 (by decide) ?_
  refine lv_icmp_ne (tgt := 56) cx.1 cx.2.1 dL_asks_45 (by decide) (fun _ => ?_) (fun h9 => absurd h9 (by decide))
  refine lv_iload_n cx.1 cx.2.1 dL_asks_56 rfl (lv_at hl 1 rfl) ?_
  refine lv_bipush (v := 6) cx.1 cx.2.1 dL_asks_57 (by decide) ?_
  refine lv_icmp_ne (tgt := 69) cx.1 cx.2.1 dL_asks_59 (by decide) (fun _ => ?_) (fun h9 => absurd h9 (by decide))
  refine lv_iload_n cx.1 cx.2.1 dL_asks_69 rfl (lv_at hl 1 rfl) ?_
  refine lv_bipush (v := 7) cx.1 cx.2.1 dL_asks_70 (by decide) ?_
  refine lv_icmp_ne (tgt := 82) cx.1 cx.2.1 dL_asks_72 (by decide) (fun _ => ?_) (fun h9 => absurd h9 (by decide))
  refine lv_iload_n cx.1 cx.2.1 dL_asks_82 rfl (lv_at hl 1 rfl) ?_
  refine lv_bipush (v := 8) cx.1 cx.2.1 dL_asks_83 (by decide) ?_
  refine lv_icmp_ne (tgt := 95) cx.1 cx.2.1 dL_asks_85 (by decide) (fun h9 => absurd (by decide) h9) (fun _ => ?_)
  refine lv_aload_n cx.1 cx.2.1 dL_asks_88 rfl (lv_at hl 0 rfl) ?_
  refine k_callXS 1 cx hE (hl.1.trans hml.symm) (kL_undoes8 l D ca ad v  hlS) hI xw_ad wk_369 wk_367 wk_368 wk_0 ⟨by decide, by decide, by decide +kernel⟩ rfl ⟨rfl, rfl⟩ ⟨Nat.le_of_ble_eq_true rfl, Nat.le_of_ble_eq_true rfl⟩ (Nat.le_of_ble_eq_true rfl) dL_asks_89 ⟨Nat.le_of_ble_eq_true rfl, Nat.le_of_ble_eq_true rfl⟩ rfl (fun E ce q9 H locs hψ hI hq hv hcl => ?_) (fun hφ H locs hI => ?_)
  · obtain ⟨hf, rfl⟩ := hψ
    refine vx_catch (E := "java/lang/IllegalStateException") (name := "java/lang/IllegalStateException") cx.2.2.1 [⟨0, 101, 102, 54⟩] ⟨0, 101, 107, 56⟩ [⟨0, 101, 112, 58⟩] (htab.trans rfl) (fun z hz => by simp only [List.mem_cons, List.not_mem_nil, or_false] at hz; subst hz; exact Or.inr ⟨by decide, "java/lang/IllegalArgumentException", cx.2.2.2.1 _ wk_214, kl_nc hE (by decide) (by decide) (by decide)⟩) (by decide) (by decide) (cx.2.2.2.1 _ wk_215) (kl_ys hE (by decide)) hq hv hcl ?_
    refine lv_astore (lv' := [(5, .ref q9), (0, .ref (ad 0)), (1, .int 8), (2, .int key), (3, .int a), (4, .int b)]) cx.1 cx.2.1 dL_asks_107 hl (by decide) rfl (fun ls hl => ?_)
    refine lv_bipush (v := (-8)) cx.1 cx.2.1 dL_asks_109 (by decide) ?_
    exact ke_i cx hr hlk hI (Nat.le_refl _) (Nat.le_refl _) dL_asks_111 (congrArg (fun z => some (Value.int z)) (zCd_1 _ _ _ _ hf _).symm) (congrArg (xw ad ca) (kSt_n (by rw [hf]; decide) _ _).symm)
  · refine lv_goto (tgt := 101) cx.1 cx.2.1 dL_asks_92 (by decide) ?_
    exact ke_i cx hr hlk hI (Nat.le_refl _) (Nat.le_refl _) dL_asks_101 (congrArg (fun z => some (Value.int z)) (zCd_0 _ _ _ _ hφ _).symm) (congrArg (xw ad ca) (kSt_0 hφ _ _).symm)
set_option maxHeartbeats 4000000 in
set_option maxRecDepth 100000 in
theorem kL_starts9 (l : Launch) (D : va_G) (ca : Nat → ClassId) (ad : Nat → Nat) (v : XS) (key a : Int32) (hlS : l.stackTraces = false) : CX l yL_starts cL_starts 3 (some .int) (KR1 7 104) D ca (xw ad ca v) [.ref (ad 0), .int key, .int a] (xfStart v key a = 0) (some (.int 0)) (xw ad ca (xStart v key a)) (fun E => (xfStart v key a = 1 ∧ E = "java/lang/IllegalArgumentException") ∨ (xfStart v key a = 2 ∧ E = "java/lang/IllegalStateException")) := by
  refine CX.of (by decide) (Nat.le_of_ble_eq_true rfl) ?_
  intro p e s m below meth c A ls cx hml hr hlk htab hE hI hl
  have hl : lv_has ls 3 [(0, .ref (ad 0)), (1, .int key), (2, .int a)] := hl
  refine lv_aload_n cx.1 cx.2.1 dL_starts_0 rfl (lv_at hl 0 rfl) ?_
  refine lv_iload_n cx.1 cx.2.1 dL_starts_1 rfl (lv_at hl 1 rfl) ?_
  refine lv_iload_n cx.1 cx.2.1 dL_starts_2 rfl (lv_at hl 2 rfl) ?_
  refine k_callX (C := RX0) (T := TX0) (N := 12) (ci := 0) 2 [] [] cx hE (hl.1.trans hml.symm) (kX0_start l D ca ad v key a hlS) hI (kn0 _) (kn0 _) xw_ad rfl rfl wk_380 wk_377 wk_378 wk_379 wk_1 ⟨rfl, by decide, by decide, by decide +kernel⟩ rfl ⟨rfl, rfl⟩ ⟨Nat.le_of_ble_eq_true rfl, Nat.le_of_ble_eq_true rfl⟩ (Nat.le_of_ble_eq_true rfl) dL_starts_3 ⟨Nat.le_of_ble_eq_true rfl, Nat.le_of_ble_eq_true rfl⟩ rfl (fun E ce q9 H locs hψ hI hq hv hcl => ?_) (fun hφ H locs hI => ?_)
  · exact kx_out htab hlk hI hψ hq hv hcl (Nat.le_of_ble_eq_true rfl) (Nat.le_of_ble_eq_true rfl)
  · refine lv_iconst (v := 0) cx.1 cx.2.1 dL_starts_6 (by decide) ?_
    exact ke_x hφ (ke_i cx hr hlk hI (Nat.le_of_ble_eq_true rfl) (Nat.le_of_ble_eq_true rfl) dL_starts_7 rfl rfl)
set_option maxHeartbeats 4000000 in
set_option maxRecDepth 100000 in
theorem kL_asks9 (l : Launch) (D : va_G) (ca : Nat → ClassId) (ad : Nat → Nat) (v : XS) (key a b : Int32) (hlS : l.stackTraces = false) : CA l D ca ad v 9 key a b (zCd (-9) (-8) 0 0 (xfStart v key a) (0)) (kSt (xfStart v key a) v (xStart v key a)) := by
  refine CH.of (by decide) (Nat.le_of_ble_eq_true rfl) ?_
  intro p e s m below meth c A ls cx hml hr hlk htab hE hI hl
  have hl : lv_has ls 6 [(0, .ref (ad 0)), (1, .int 9), (2, .int key), (3, .int a), (4, .int b)] := hl
  refine lv_iload_n cx.1 cx.2.1 dL_asks_0 rfl (lv_at hl 1 rfl) ?_
  refine lv_iconst (v := 3) cx.1 cx.2.1 dL_asks_1 (by decide) ?_
  refine lv_icmp_ge (tgt := 17) cx.1 cx.2.1 dL_asks_2 (by decide) (fun _ => ?_) (fun h9 => absurd (by decide) h9)
  refine lv_iload_n cx.1 cx.2.1 dL_asks_17 rfl (lv_at hl 1 rfl) ?_
  refine lv_iconst (v := 3) cx.1 cx.2.1 dL_asks_18 (by decide) ?_
  refine lv_icmp_ne (tgt := 30) cx.1 cx.2.1 dL_asks_19 (by decide) (fun _ => ?_) (fun h9 => absurd h9 (by decide))
  refine lv_iload_n cx.1 cx.2.1 dL_asks_30 rfl (lv_at hl 1 rfl) ?_
  refine lv_iconst (v := 4) cx.1 cx.2.1 dL_asks_31 (by decide) ?_
  refine lv_icmp_ne (tgt := 43) cx.1 cx.2.1 dL_asks_32 (by decide) (fun _ => ?_) (fun h9 => absurd h9 (by decide))
  refine lv_iload_n cx.1 cx.2.1 dL_asks_43 rfl (lv_at hl 1 rfl) ?_
  refine lv_iconst (v := 5) cx.1 cx.2.1 dL_asks_44 (by decide) ?_
  refine lv_icmp_ne (tgt := 56) cx.1 cx.2.1 dL_asks_45 (by decide) (fun _ => ?_) (fun h9 => absurd h9 (by decide))
  refine lv_iload_n cx.1 cx.2.1 dL_asks_56 rfl (lv_at hl 1 rfl) ?_
  refine lv_bipush (v := 6) cx.1 cx.2.1 dL_asks_57 (by decide) ?_
  refine lv_icmp_ne (tgt := 69) cx.1 cx.2.1 dL_asks_59 (by decide) (fun _ => ?_) (fun h9 => absurd h9 (by decide))
  refine lv_iload_n cx.1 cx.2.1 dL_asks_69 rfl (lv_at hl 1 rfl) ?_
  refine lv_bipush (v := 7) cx.1 cx.2.1 dL_asks_70 (by decide) ?_
  refine lv_icmp_ne (tgt := 82) cx.1 cx.2.1 dL_asks_72 (by decide) (fun _ => ?_) (fun h9 => absurd h9 (by decide))
  refine lv_iload_n cx.1 cx.2.1 dL_asks_82 rfl (lv_at hl 1 rfl) ?_
  refine lv_bipush (v := 8) cx.1 cx.2.1 dL_asks_83 (by decide) ?_
  refine lv_icmp_ne (tgt := 95) cx.1 cx.2.1 dL_asks_85 (by decide) (fun _ => ?_) (fun h9 => absurd h9 (by decide))
  refine lv_aload_n cx.1 cx.2.1 dL_asks_95 rfl (lv_at hl 0 rfl) ?_
  refine lv_iload_n cx.1 cx.2.1 dL_asks_96 rfl (lv_at hl 2 rfl) ?_
  refine lv_iload_n cx.1 cx.2.1 dL_asks_97 rfl (lv_at hl 3 rfl) ?_
  refine k_callXS 3 cx hE (hl.1.trans hml.symm) (kL_starts9 l D ca ad v key a hlS) hI xw_ad wk_376 wk_374 wk_375 wk_0 ⟨by decide, by decide, by decide +kernel⟩ rfl ⟨rfl, rfl⟩ ⟨Nat.le_of_ble_eq_true rfl, Nat.le_of_ble_eq_true rfl⟩ (Nat.le_of_ble_eq_true rfl) dL_asks_98 ⟨Nat.le_of_ble_eq_true rfl, Nat.le_of_ble_eq_true rfl⟩ rfl (fun E ce q9 H locs hψ hI hq hv hcl => ?_) (fun hφ H locs hI => ?_)
  · rcases hψ with ⟨hf, rfl⟩ | ⟨hf, rfl⟩
    · refine vx_catch (E := "java/lang/IllegalArgumentException") (name := "java/lang/IllegalArgumentException") cx.2.2.1 [] ⟨0, 101, 102, 54⟩ [⟨0, 101, 107, 56⟩, ⟨0, 101, 112, 58⟩] (htab.trans rfl) (fun z hz => nomatch hz) (by decide) (by decide) (cx.2.2.2.1 _ wk_214) (kl_ys hE (by decide)) hq hv hcl ?_
      refine lv_astore (lv' := [(5, .ref q9), (0, .ref (ad 0)), (1, .int 9), (2, .int key), (3, .int a), (4, .int b)]) cx.1 cx.2.1 dL_asks_102 hl (by decide) rfl (fun ls hl => ?_)
      refine lv_bipush (v := (-9)) cx.1 cx.2.1 dL_asks_104 (by decide) ?_
      exact ke_i cx hr hlk hI (Nat.le_refl _) (Nat.le_refl _) dL_asks_106 (congrArg (fun z => some (Value.int z)) (zCd_1 _ _ _ _ hf _).symm) (congrArg (xw ad ca) (kSt_n (by rw [hf]; decide) _ _).symm)
    · refine vx_catch (E := "java/lang/IllegalStateException") (name := "java/lang/IllegalStateException") cx.2.2.1 [⟨0, 101, 102, 54⟩] ⟨0, 101, 107, 56⟩ [⟨0, 101, 112, 58⟩] (htab.trans rfl) (fun z hz => by simp only [List.mem_cons, List.not_mem_nil, or_false] at hz; subst hz; exact Or.inr ⟨by decide, "java/lang/IllegalArgumentException", cx.2.2.2.1 _ wk_214, kl_nc hE (by decide) (by decide) (by decide)⟩) (by decide) (by decide) (cx.2.2.2.1 _ wk_215) (kl_ys hE (by decide)) hq hv hcl ?_
      refine lv_astore (lv' := [(5, .ref q9), (0, .ref (ad 0)), (1, .int 9), (2, .int key), (3, .int a), (4, .int b)]) cx.1 cx.2.1 dL_asks_107 hl (by decide) rfl (fun ls hl => ?_)
      refine lv_bipush (v := (-8)) cx.1 cx.2.1 dL_asks_109 (by decide) ?_
      exact ke_i cx hr hlk hI (Nat.le_refl _) (Nat.le_refl _) dL_asks_111 (congrArg (fun z => some (Value.int z)) (zCd_2 _ _ _ _ hf _).symm) (congrArg (xw ad ca) (kSt_n (by rw [hf]; decide) _ _).symm)
  · exact ke_i cx hr hlk hI (Nat.le_refl _) (Nat.le_refl _) dL_asks_101 (congrArg (fun z => some (Value.int z)) (zCd_0 _ _ _ _ hφ _).symm) (congrArg (xw ad ca) (kSt_0 hφ _ _).symm)

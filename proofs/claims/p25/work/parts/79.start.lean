/-! MINE: a table, from its entry. -/
section KCN
variable {p : Program} {l : Launch} {e : Env} {R : Room} {s : State} {m : MethodId} {args : Array Value} {below : List Frame} {meth : Method} {c : Code} {H : Heap} {locs : List Loc} {cells slots mc ms ml : Nat} {Q : State → Prop}
variable {cc cd : ByteArray} {pc : Nat} {ls : Array Slot} {rest : List Value} {D : va_G} {ca : Nat → ClassId} {A : Nat → Prop} {own : String} {index a0 ci : Nat} {fs : List Value} {wF : (Nat → Nat) → va_W} {y : MethodName} {rm : Room} {W0 : va_W}
/-- a call of a constructor, on a bare new cell, that is the world's last -/
theorem k_callN (wr : va_W) (isC isR : List Nat) (cx : KC p c cc s args m own D ca) (hO : va_AOA .int s) (hls : ls.size = c.maxLocals) (hM : CN l y cd ml rm D ca a0 ci fs wF mc ms) (hI : KI D A W0 s.heap H locs)
    (hC : isC.map (fun i => W0[i]?) = [(a0, .inr (ci, fs))].map some) (hR : isR.map (fun i => W0[i]?) = wr.map some) (hn : va_nd isR = true) (hdis : ∀ i ∈ isR, i ∉ isC)
    (h0 : Cond.code y cd ml none ∈ WL) (h1 : Cond.methodLink own index y ∈ WL) (h2 : Cond.instanceMethod y ∈ WL) (h4 : Cond.initialized y.cls ∈ WL)
    (hy : y.name = "<init>") (hd : y.cls ≠ "java/lang/invoke/MethodHandle" ∧ y.cls ≠ "java/lang/invoke/VarHandle" ∧ (parseMethodDescriptor y.desc).map (fun d => d.parameters.length) = some 0) (hrm : rm.cells = mc ∧ rm.slots = ms)
    (hRR : rm.frames + 1 ≤ R.frames ∧ 8 + (ml + 11) + rm.locals ≤ R.locals) (hW : (rest.map fun v => v.category).sum ≤ 8) (hdg : decode cc pc = .ok (.invokespecial index, 3)) (hf : cells + mc ≤ R.cells ∧ slots + ms ≤ R.slots)
    (kk : ∀ (ad : Nat → Nat) H1 locs1, ad 0 = a0 → KI D A (wr ++ wF ad) s.heap H1 locs1 → W p l e R s m args below meth c H1 locs1 (cells + mc) (slots + ms) Q (F0 m (pc + 3) ls rest)) : W p l e R s m args below meth c H locs cells slots Q (F0 m pc ls (.ref a0 :: rest)) := by
  obtain ⟨hP, hD, hS, hA⟩ := hI
  have hwc : ∀ (k : Nat) (q : Nat × va_E), [(a0, (.inr (ci, fs) : va_E))][k]? = some q → ∃ i : Nat, W0[i]? = some q := by
    intro k q hq
    have h9 : (isC.map (fun i => W0[i]?))[k]? = some (some q) := by rw [hC, List.getElem?_map, hq]; rfl
    rw [List.getElem?_map] at h9
    cases hi : isC[k]? with
    | none => rw [hi] at h9; cases h9
    | some i => rw [hi] at h9; exact ⟨i, Option.some.inj h9⟩
  have hPc : va_P D vwCl [(a0, .inr (ci, fs))] H := fun k q hq => by
    obtain ⟨i, hi⟩ := hwc k q hq
    exact hP i q hi
  have hDc : va_D (fun _ => True) [(a0, (.inr (ci, fs) : va_E))] := ⟨fun i j p9 q9 hi hj _ => by
    have z1 : i < 1 := (List.getElem?_eq_some_iff.mp hi).1
    have z2 : j < 1 := (List.getElem?_eq_some_iff.mp hj).1
    omega, fun _ _ _ => trivial⟩
  have hF : ∀ q, va_A [(a0, (.inr (ci, fs) : va_E))] H.size q → A q := va_free hD hS hA isC hC
  have hr := va_runI (e := e) (below := below) (meth := meth) (locs := locs) (As := []) (rest := rest) ⟨cx.1, cx.2.1, rfl, cx.2.2.1, cx.2.2.2.1⟩ (hM H.size) (cwI 0 cx.2.2.2.1 (wk_goodL h0) rfl hrm.1 hrm.2 (cx.2.2.2.1 _ h4) (cx.2.2.2.1 _ h1) (cx.2.2.2.1 _ h2) hy hd hRR) ⟨fun a U g mk q => by
      obtain ⟨q0, q1, qP, qK, qD, qO⟩ := q
      exact ⟨q0, q1, qP, va_K.moved (u := U) (U := U.calling g mk a) (Vm.Alike.refl U.vm) qK, qD, va_AOA.moved (u := U) (U := U.calling g mk a) (Vm.Alike.refl U.vm) qO⟩, fun U hU hWm => ⟨rfl, by rw [hU], by rw [hU]; exact hPc, va_K.moved hWm.alike cx.2.2.2.2, hDc, va_AOA.moved hWm.alike hO⟩⟩ (g := F0 m pc ls (.ref a0 :: rest)) rfl rfl hls rfl (lv_room hW) hdg hf
  intro T hT X
  obtain ⟨v, st₀, t, T', L, q0, X', hL, e1, e2, ⟨hv, ⟨ad, had, hP1, hD1⟩, hz, hk⟩, st⟩ := hr T hT X
  have hv : v = none := by injection hv
  subst hv
  rw [q0] at hz hk
  have hk1 : ∀ q : Nat, q < H.size → ¬ va_A [(a0, (.inr (ci, fs) : va_E))] H.size q → T'.heap[q]? = H[q]? := fun q g1 g2 => by rw [e1]; exact hk q g1 g2
  have hz1 : H.size ≤ T'.heap.size := by rw [e1]; exact hz
  obtain ⟨j1, j2⟩ := va_join hP hD isC isR hC hR hn hdis hk1 hF (by rw [e1]; exact hP1) hD1
  obtain ⟨t2, a1, b1⟩ := kk ad T'.heap (locs ++ L) had ⟨j1, j2, ⟨Nat.le_trans hS.1 hz1, fun q g1 g2 => by rw [hk1 q (Nat.lt_of_lt_of_le g1 hS.1) (fun z => g2 (hF q z))]; exact hS.2.1 q g1 g2, fun q hq => by
      rcases List.mem_append.mp hq with h | h
      · exact hS.2.2 q h
      · exact hF _ (hL q h)⟩, hA⟩ T' rfl X'
  exact ⟨t2, st t2 a1, b1⟩
end KCN
/-- an array class of the tables' -/
theorem kt_ac {ty : FieldType} {args : Array Value} {s : State} (hn : ∀ C, ty ≠ .object C) (h : (Cond.arrayClass ty).before args s = true) : ∃ cA, ArrOfT s cA ty ∧ va_RA s cA ty := by
  obtain ⟨cA, k, comp, h1, h2, h3⟩ := Cond.arrayClass_spec h
  refine ⟨cA, fun n z => ⟨fun k h => (by cases h), k, h2, comp, h3⟩, ?_⟩
  cases ty with
  | object C => exact absurd rfl (hn C)
  | _ => exact h1
theorem kt_ao {t : FieldType} {args : Array Value} {s : State} (h : (Cond.arrayOver (.array t)).before args s = true) : ∃ cA, ArrOfT s cA (.array t) ∧ va_RA s cA (.array t) := by
  obtain ⟨comp, c, k, h1, -, h2, h3, h4⟩ := arrayOverA_spec h
  exact ⟨c, fun n z => ⟨fun k h => (by cases h), k, h2, comp, h3⟩, h4⟩
set_option maxRecDepth 100000 in
theorem kt_strs : ∀ q ∈ kstrs, Cond.stringRef RX0 q.1 q.2 ∈ lw_tbl := by decide +kernel
set_option maxRecDepth 100000 in
theorem kt_kws : ∀ w ∈ kws, w ∈ lw_tbl := by decide +kernel
theorem kt_kwo : ∀ w ∈ kws, w.onTables = true := by decide +kernel
set_option maxRecDepth 100000 in
theorem kt_ncs : ∀ E ∈ kexs, ∀ F ∈ kexs, E ≠ F → Cond.not (.castable E F) ∈ flatC (Jvm.Cond.and given_1 narrow_1) := by decide +kernel
set_option maxHeartbeats 4000000 in
set_option maxRecDepth 100000 in
theorem kt_E {s : State} {m : MethodId} {args : Array Value} (hts : ∀ w ∈ lw_tbl, w.before args s = true) (hgv : (Jvm.Cond.and given_1 narrow_1).before args s = true) : KE (fun q => s.heap.size ≤ q) s s.heap := by
  have hg := flat_of_before _ hgv
  refine ⟨vx_Zqof (args := args) (hts _ (by decide +kernel)) (hts _ (by decide +kernel)) (hg _ (by decide +kernel)) (fun a h => Nat.not_le.mpr h), vx_Zqof (args := args) (hts _ (by decide +kernel)) (hts _ (by decide +kernel)) (hg _ (by decide +kernel)) (fun a h => Nat.not_le.mpr h), fun q hq => ?_, fun w hw => va_Nw.of (kt_kwo w hw) (hts w (kt_kws w hw)), fun E hE F hF hn => va_Nc.of (hg _ (kt_ncs E hE F hF hn))⟩
  have h1 := hts _ (kt_strs q hq)
  obtain ⟨c0, iS0, hKn0⟩ := u_known (C := RX0) (T := TX0) (N := 12) (n := 12) hts (fun w hw => wk_tbl (wk_X0 w hw)) (hts _ (wk_tbl wk_16))
  obtain ⟨k, cf, i, a, -, -, -, -, -, hev⟩ := Cond.stringRef_spec hKn0.2.1 h1
  exact ⟨a, vk_R.of h1 hev⟩
set_option maxHeartbeats 4000000 in
set_option maxRecDepth 100000 in
theorem kt_K {s : State} {args : Array Value} (hts : ∀ w ∈ lw_tbl, w.before args s = true) : ∃ (D : va_G) (ca : Nat → ClassId), va_K D vwCl (ktys ca) s := by
  obtain ⟨c0, iS0, hKn0⟩ := u_known (C := RX0) (T := TX0) (N := 12) (n := 12) hts (fun w hw => wk_tbl (wk_X0 w hw)) (hts _ (wk_tbl wk_16))
  obtain ⟨a0, i0, r0⟩ := kt_ac (ty := .int) (fun C h => by cases h) (hts _ (wk_tbl wk_65))
  obtain ⟨a1, i1, r1⟩ := kt_ac (ty := .boolean) (fun C h => by cases h) (hts _ (wk_tbl wk_66))
  obtain ⟨a2, i2, r2⟩ := kt_ao (t := .int) (hts (.arrayOver (.array .int)) (by decide +kernel))
  refine ⟨(fun _ => c0, fun _ => iS0), fun k => if k = 0 then a0 else if k = 1 then a1 else a2, fun k q hq => ?_, fun k q hq => ?_⟩
  · match k, hq with
    | 0, hq => cases hq; exact hKn0
    | k + 1, hq => simp at hq
  · match k, hq with
    | 0, hq => cases hq; exact ⟨i0, r0⟩
    | 1, hq => cases hq; exact ⟨i1, r1⟩
    | 2, hq => cases hq; exact ⟨i2, r2⟩
    | k + 3, hq => simp [ktys] at hq
theorem kt_xfs : ∀ j, j < 12 → defaultValue (tyX0 j) = vp_V xFs j := fun j hj => by rcases (show j = 0 ∨ j = 1 ∨ j = 2 ∨ j = 3 ∨ j = 4 ∨ j = 5 ∨ j = 6 ∨ j = 7 ∨ j = 8 ∨ j = 9 ∨ j = 10 ∨ j = 11 by omega) with rfl | rfl | rfl | rfl | rfl | rfl | rfl | rfl | rfl | rfl | rfl | rfl <;> rfl

theorem lC_new : lK 0 0 0 8 10 0 0 = lC xNew := by
  have e : xNew = xUl (xUk (xUp (xUC2 (xUC1 (xUC0 (xUA xZ (kFill 40 (-1) (xA xZ))) (kFill 40 (-1) (xC0 xZ))) (kFill 40 (-1) (xC1 xZ))) (kFill 40 (-1) (xC2 xZ))) 0) 8) 10 := by
    unfold xNew
    rw [xClr_is]
    rfl
  rw [e]
  rfl
theorem lO_new : kFill 40 (-1) (fun _ => 0) = lO xNew := by
  have e : xNew = xUl (xUk (xUp (xUC2 (xUC1 (xUC0 (xUA xZ (kFill 40 (-1) (xA xZ))) (kFill 40 (-1) (xC0 xZ))) (kFill 40 (-1) (xC1 xZ))) (kFill 40 (-1) (xC2 xZ))) 0) 8) 10 := by
    unfold xNew
    rw [xClr_is]
    rfl
  rw [e]
  funext j
  show kFill 40 (-1) (fun _ => 0) j = if kFill 40 (-1) (fun _ => 0) j = -1 then -1 else 1000 * kFill 40 (-1) (fun _ => 0) j + 0
  unfold kFill
  by_cases h : j < 40
  · rw [if_pos h, if_pos rfl]
  · rw [if_neg h]
    show (0 : Int32) = if (0 : Int32) = -1 then -1 else 1000 * 0 + 0
    decide
theorem lK_z : (fun _ => 0 : Nat → Int32) = lK 0 0 0 0 0 0 0 := funext fun j => by
  rcases j with _ | _ | _ | _ | _ | _ | _ | j <;> rfl
theorem kFill_n {i : Nat} (f : Nat → Int32) (y : Int32) : kFill (i + 1) y f = upd (kFill i y f) i y := funext fun j => by
  by_cases h : j = i
  · subst h
    rw [pk_us]
    exact if_pos (Nat.lt_succ_self j)
  · rw [pk_un h]
    unfold kFill
    by_cases h2 : j < i
    · rw [if_pos h2, if_pos (by omega)]
    · rw [if_neg h2, if_neg (by omega)]
def CT (l : Launch) (D : va_G) (ca : Nat → ClassId) (b L : Nat) (xs : Nat → Int32) (at_ : Int32) : Prop :=
  ∀ sz : Nat, Met l yL_table (.code yL_table cL_table 9 (some .boolean) :: WL) RMT (va_Pc [.ref b, .int at_] (fun U => U.heap.size = sz ∧ va_K D vwCl (ktys ca) U ∧ va_X b L xs U U.heap ∧ b < sz ∧ KE (fun q => sz ≤ q) U U.heap ∧ va_AOA .int U)) (fun _ st oc t => oc = .returned (some (.int 1)) ∧ va_F (fun q => sz ≤ q) st t) 131 2046 (fun q => sz ≤ q)
section TSTART
variable {p : Program} {e : Env} {s : State} {m : MethodId} {below : List Frame} {meth : Method} {c : Code} {D : va_G} {ca : Nat → ClassId} {b L : Nat} {xs : Nat → Int32}
set_option maxHeartbeats 4000000 in
set_option maxRecDepth 100000 in
theorem table_walk (l : Launch) {a0 : Nat} {ls : Array Slot} (cx : KC p c cL_table s #[Value.ref b, .int (nI a0)] m RL D ca) (hml : c.maxLocals = 9) (hr : meth.sig.returnType = some .boolean) (hlk : meth.locks = false) (hE : KE (fun q => s.heap.size ≤ q) s s.heap) (hO : va_AOA .int s) (hlS : l.stackTraces = false) (hX : va_X b L xs s s.heap) (hbl : b < s.heap.size) (hL : L ≤ 260) (ha : a0 < 1000) (hl : lv_has ls 9 [(0, .ref b), (1, .int (nI a0))]) :
    W p l e RMT s m #[Value.ref b, .int (nI a0)] below meth c s.heap [] 0 0 (MQ below (fun _ st oc t => oc = .returned (some (.int 1)) ∧ va_F (fun q => s.heap.size ≤ q) st t) #[Value.ref b, .int (nI a0)] s 131 2046 (fun q => s.heap.size ≤ q)) (F0 m 0 ls []) := by
  have hK := cx.2.2.2.2
  have hI : KI D (fun q => s.heap.size ≤ q) [] s.heap s.heap [] := ⟨fun k q h => by simp at h, ⟨fun i j p9 q9 h => by simp at h, fun k q h => by simp at h⟩, va_S.rf, fun q h => h⟩
  refine va_new (ci := 0) (fs := xFs) (C := RX0) (T := TX0) (N := 12) cx.1 cx.2.1 cx.2.2.2.1 wk_X0 tyX0 tyX0_ok cx.2.2.1 (cx.2.2.2.1 _ wk_15) (cx.2.2.2.1 _ wk_16) (cx.2.2.2.1 _ wk_1) hK hI.1 hI.2.1 hI.2.2.1 hI.2.2.2 rfl kt_xfs (Nat.le_of_ble_eq_true rfl) (Nat.le_of_ble_eq_true rfl) dL_table_0 (fun x0 H hP hD hS => ?_)
  have hI : KI D (fun q => s.heap.size ≤ q) [(x0, .inr (0, xFs))] s.heap H [] := ⟨hP, hD, hS, fun q h => h⟩
  refine W.widen (k := 1) (n := 12) (by omega) (by omega) ?_
  refine lv_dup cx.1 cx.2.1 dL_table_3 rfl ?_
  refine k_callN (rest := [.ref x0]) [] [0] [] cx hO (hl.1.trans hml.symm) (kX0_init l D ca x0) hI rfl rfl (by decide) (by decide) wk_19 wk_17 wk_18 wk_1 rfl ⟨by decide, by decide, by decide +kernel⟩ ⟨rfl, rfl⟩ ⟨Nat.le_of_ble_eq_true rfl, Nat.le_of_ble_eq_true rfl⟩ (Nat.le_of_ble_eq_true rfl) dL_table_4 ⟨Nat.le_of_ble_eq_true rfl, Nat.le_of_ble_eq_true rfl⟩ (fun xa H locs hxa hJ => ?_)
  subst hxa
  have hI : KI D (fun q => s.heap.size ≤ q) (xw xa ca xNew) s.heap H locs := hJ
  refine lv_astore_n (lv' := [(2, .ref (xa 0)), (0, .ref b), (1, .int (nI a0))]) cx.1 cx.2.1 dL_table_7 rfl hl (by decide) rfl (fun ls hl => ?_)
  refine lv_bipush (v := 40) cx.1 cx.2.1 dL_table_8 (by decide) ?_
  refine k_newI 40 cx hI (by decide) (by decide) (by decide) ⟨Nat.le_of_ble_eq_true rfl, Nat.le_of_ble_eq_true rfl⟩ dL_table_10 (fun oa H hI => ?_)
  refine lv_astore_n (lv' := [(3, .ref oa), (2, .ref (xa 0)), (0, .ref b), (1, .int (nI a0))]) cx.1 cx.2.1 dL_table_12 rfl hl (by decide) rfl (fun ls hl => ?_)
  refine lv_bipush (v := 7) cx.1 cx.2.1 dL_table_13 (by decide) ?_
  refine k_newI 7 cx hI (by decide) (by decide) (by decide) ⟨Nat.le_of_ble_eq_true rfl, Nat.le_of_ble_eq_true rfl⟩ dL_table_15 (fun cb H hI => ?_)
  refine lv_astore (lv' := [(4, .ref cb), (3, .ref oa), (2, .ref (xa 0)), (0, .ref b), (1, .int (nI a0))]) cx.1 cx.2.1 dL_table_17 hl (by decide) rfl (fun ls hl => ?_)
  have hI : KI D (fun q => s.heap.size ≤ q) (lw xa oa cb ca xNew (kFill 0 (-1) (fun _ => 0)) (lK 0 0 0 0 0 0 0) []) s.heap H locs := by
    rw [← lK_z, kFill_0]
    exact hI
  refine lv_iconst (v := 0) cx.1 cx.2.1 dL_table_19 (by decide) ?_
  refine lv_istore (lv' := [(5, .int 0), (4, .ref cb), (3, .ref oa), (2, .ref (xa 0)), (0, .ref b), (1, .int (nI a0))]) cx.1 cx.2.1 dL_table_20 hl (by decide) rfl (fun ls hl => ?_)
  refine k_loop 40 (fun i => lw xa oa cb ca xNew (kFill i (-1) (fun _ => 0)) (lK 0 0 0 0 0 0 0) []) (fun i => [(5, .int (nI i)), (4, .ref cb), (3, .ref oa), (2, .ref (xa 0)), (0, .ref b), (1, .int (nI a0))]) hI (lv_sub hl [0, 1, 2, 3, 4, 5] rfl) (fun H locs ls hI hl => ?_) (fun i hi H locs ls hI hl ih => ?_)
  · have hl : lv_has ls 9 [(5, .int (nI 40)), (4, .ref cb), (3, .ref oa), (2, .ref (xa 0)), (0, .ref b), (1, .int (nI a0))] := hl
    refine lv_iload cx.1 cx.2.1 dL_table_22 (lv_at hl 0 rfl) ?_
    refine lv_bipush (v := 40) cx.1 cx.2.1 dL_table_24 (by decide) ?_
    refine lv_icmp_ge (tgt := 40) cx.1 cx.2.1 dL_table_26 (by decide) (fun _ => ?_) (fun h9 => absurd (by decide : (40 : Int32) ≤ nI 40) h9)
    refine lv_aload cx.1 cx.2.1 dL_table_40 (lv_at hl 1 rfl) ?_
    refine lv_iconst (v := 3) cx.1 cx.2.1 dL_table_42 (by decide) ?_
    refine lv_bipush (v := 8) cx.1 cx.2.1 dL_table_43 (by decide) ?_
    refine ls_c3 cx hI dL_table_45 (fun H locs hI => ?_)
    refine lv_aload cx.1 cx.2.1 dL_table_46 (lv_at hl 1 rfl) ?_
    refine lv_iconst (v := 4) cx.1 cx.2.1 dL_table_48 (by decide) ?_
    refine lv_bipush (v := 10) cx.1 cx.2.1 dL_table_49 (by decide) ?_
    refine ls_c4 cx hI dL_table_51 (fun H locs hI => ?_)
    rw [lO_new, lC_new] at hI
    refine lv_iconst (v := 0) cx.1 cx.2.1 dL_table_52 (by decide) ?_
    refine lv_istore (lv' := [(5, .int 0), (4, .ref cb), (3, .ref oa), (2, .ref (xa 0)), (0, .ref b), (1, .int (nI a0))]) cx.1 cx.2.1 dL_table_53 hl (by decide) rfl (fun ls hl => ?_)
    refine W.widen (k := 11 + 2 * 0) (n := 1326 + 12 * 0) (Nat.le_of_ble_eq_true rfl) (Nat.le_of_ble_eq_true rfl) ?_
    refine table_loop l cx hml hE hlS hX hbl (fun q => absurd hbl (Nat.not_lt.mpr q)) hL ha hr hlk (fun H locs ls hS => ?_) 60 0 rfl H locs ls xNew hI zI_new (lv_sub hl [0, 4, 5, 3, 2, 1] rfl)
    refine lv_iconst (v := 1) cx.1 cx.2.1 dL_table_165 (by decide) ?_
    exact W.zret cx.1 cx.2.1 hr rfl (fun t ht hW => ⟨rfl, hS.F ht⟩) hS.2.2 dL_table_166 hlk
  · have hl : lv_has ls 9 [(5, .int (nI i)), (4, .ref cb), (3, .ref oa), (2, .ref (xa 0)), (0, .ref b), (1, .int (nI a0))] := hl
    refine lv_iload cx.1 cx.2.1 dL_table_22 (lv_at hl 0 rfl) ?_
    refine lv_bipush (v := 40) cx.1 cx.2.1 dL_table_24 (by decide) ?_
    refine lv_icmp_ge (tgt := 40) cx.1 cx.2.1 dL_table_26 (by decide) (fun h9 => absurd h9 (nI_ge hi (by decide))) (fun _ => ?_)
    refine lv_aload_n cx.1 cx.2.1 dL_table_29 rfl (lv_at hl 2 rfl) ?_
    refine lv_iload cx.1 cx.2.1 dL_table_30 (lv_at hl 0 rfl) ?_
    refine lv_iconst (v := (-1)) cx.1 cx.2.1 dL_table_32 (by decide) ?_
    refine ls_on cx hI hi dL_table_33 (fun H locs hI => ?_)
    rw [← kFill_n] at hI
    refine lv_iinc (v := nI (i + 1)) (lv' := [(5, .int (nI (i + 1))), (4, .ref cb), (3, .ref oa), (2, .ref (xa 0)), (0, .ref b), (1, .int (nI a0))]) cx.1 cx.2.1 dL_table_34 hl (k := 0) rfl (nI_1 i) (by decide) rfl (fun ls hl => ?_)
    refine lv_goto (tgt := 22) cx.1 cx.2.1 dL_table_37 (by decide) ?_
    exact ih _ _ _ hI hl
end TSTART
theorem kL_table (l : Launch) (D : va_G) (ca : Nat → ClassId) (b L : Nat) (xs : Nat → Int32) (hL : L ≤ 260) {a0 : Nat} (ha : a0 < 1000) (hlS : l.stackTraces = false) : CT l D ca b L xs (nI a0) := by
  intro sz
  refine Met.ofW (cc := cL_table) (maxL := 9) (ret := some .boolean) (by decide) rfl ?_
  intro p e s m args below meth c s₁ B hml hv
  obtain ⟨rfl, hsz, hK, hX, hb, hE, hO⟩ := hv
  have hts := atoms_spec (ws := .code yL_table cL_table 9 (some .boolean) :: WL) B.pre
  have hown : s.vm.findClass yL_table.cls = some m.cls := findClass_of_methodNamed B.named
  subst hsz
  have hl := lv_entry [.ref b, .int (nI a0)] (n := 9) (Nat.le_of_ble_eq_true rfl)
  rw [lg_entry_eq]
  exact table_walk l ⟨B.exec, B.bytes, hown, fun w hw => hts w (List.mem_cons_of_mem _ hw), hK⟩ hml B.returns B.notSynchronized hE hO hlS hX hb hL ha hl

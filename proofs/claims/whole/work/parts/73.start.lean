/-! MINE: the law from its entry. -/
section KCN
variable {p : Program} {l : Launch} {e : Env} {R : Room} {s : State} {m : MethodId} {args : Array Value} {below : List Frame} {meth : Method} {c : Code} {H : Heap} {locs : List Loc} {cells slots mc ms ml : Nat} {Q : State → Prop}
variable {cc cd : ByteArray} {pc : Nat} {ls : Array Slot} {rest : List Value} {D : va_G} {ca : Nat → ClassId} {A : Nat → Prop} {own : String} {index a0 ci : Nat} {fs : List Value} {wF : (Nat → Nat) → va_W} {y : MethodName} {rm : Room} {W0 : va_W}
/-- a call of a constructor, on a bare new cell, that is the world's last -/
theorem k_callN (wr : va_W) (isC isR : List Nat) (cx : KC p c cc s args m own D ca) (hO : va_AOA .int s) (hls : ls.size = c.maxLocals) (hM : CN l y cd ml rm D ca a0 ci fs wF mc ms) (hI : KI D A W0 s.heap H locs)
    (hC : isC.map (fun i => W0[i]?) = [(a0, .inr (ci, fs))].map some) (hR : isR.map (fun i => W0[i]?) = wr.map some) (hn : va_nd isR = true) (hdis : ∀ i ∈ isR, i ∉ isC)
    (h0 : Cond.code y cd ml none ∈ WL) (h1 : Cond.methodLink own index y ∈ WL) (h2 : Cond.instanceMethod y ∈ WL) (h4 : Cond.initialized y.cls ∈ WL)
    (hy : y.name = "<init>") (hd : y.cls ≠ "java/lang/invoke/MethodHandle" ∧ y.cls ≠ "java/lang/invoke/VarHandle" ∧ (parseMethodDescriptor y.desc).map (fun d => d.parameters.length) = some 0) (hrm : rm.cells = mc ∧ rm.slots = ms)
    (hRR : rm.frames + 1 ≤ R.frames ∧ 8 + (ml + 11) + rm.locals ≤ R.locals) (hW : (rest.map fun v => v.category).sum ≤ 8) (hdg : decode cc pc = .ok (.invokespecial index, 3)) (hf : cells + mc ≤ R.cells ∧ slots + ms ≤ R.slots)
    (kk : ∀ (ad : Nat → Nat) H1 locs1, ad 0 = a0 → KI D A (wr ++ wF ad) s.heap H1 locs1 → W p l e R s m args below meth c H1 locs1 (cells + mc) (slots + ms) Q (F0 m (pc + 3) ls rest)) : W p l e R s m args below meth c H locs cells slots Q (F0 m pc ls (.ref a0 :: rest)) := by
  obtain ⟨hP, hD, hS, hA⟩ := hI
  have hwc : ∀ (k : Nat) (q : Nat × va_E), [(a0, (.inr (ci, fs) : va_E))][k]? = some q → ∃ i : Nat, W0[i]? = some q := by
    intro k q hq
    have h9 : (isC.map (fun i => W0[i]?))[k]? = some (some q) := by rw [hC, List.getElem?_map, hq]; rfl
    rw [List.getElem?_map] at h9
    cases hi : isC[k]? with
    | none => rw [hi] at h9; cases h9
    | some i => rw [hi] at h9; exact ⟨i, Option.some.inj h9⟩
  have hPc : va_P D vwCl [(a0, .inr (ci, fs))] H := fun k q hq => by
    obtain ⟨i, hi⟩ := hwc k q hq
    exact hP i q hi
  have hDc : va_D (fun _ => True) [(a0, (.inr (ci, fs) : va_E))] := ⟨fun i j p9 q9 hi hj _ => by
    have z1 : i < 1 := (List.getElem?_eq_some_iff.mp hi).1
    have z2 : j < 1 := (List.getElem?_eq_some_iff.mp hj).1
    omega, fun _ _ _ => trivial⟩
  have hF : ∀ q, va_A [(a0, (.inr (ci, fs) : va_E))] H.size q → A q := va_free hD hS hA isC hC
  have hr := va_runI (e := e) (below := below) (meth := meth) (locs := locs) (As := []) (rest := rest) ⟨cx.1, cx.2.1, rfl, cx.2.2.1, cx.2.2.2.1⟩ (hM H.size) (cwI 0 cx.2.2.2.1 (wk_goodL h0) rfl hrm.1 hrm.2 (cx.2.2.2.1 _ h4) (cx.2.2.2.1 _ h1) (cx.2.2.2.1 _ h2) hy hd hRR) ⟨fun a U g mk q => by
      obtain ⟨q0, q1, qP, qK, qD, qO⟩ := q
      exact ⟨q0, q1, qP, va_K.moved (u := U) (U := U.calling g mk a) (Vm.Alike.refl U.vm) qK, qD, va_AOA.moved (u := U) (U := U.calling g mk a) (Vm.Alike.refl U.vm) qO⟩, fun U hU hWm => ⟨rfl, by rw [hU], by rw [hU]; exact hPc, va_K.moved hWm.alike cx.2.2.2.2, hDc, va_AOA.moved hWm.alike hO⟩⟩ (g := F0 m pc ls (.ref a0 :: rest)) rfl rfl hls rfl (lv_room hW) hdg hf
  intro T hT X
  obtain ⟨v, st₀, t, T', L, q0, X', hL, e1, e2, ⟨hv, ⟨ad, had, hP1, hD1⟩, hz, hk⟩, st⟩ := hr T hT X
  have hv : v = none := by injection hv
  subst hv
  rw [q0] at hz hk
  have hk1 : ∀ q : Nat, q < H.size → ¬ va_A [(a0, (.inr (ci, fs) : va_E))] H.size q → T'.heap[q]? = H[q]? := fun q g1 g2 => by rw [e1]; exact hk q g1 g2
  have hz1 : H.size ≤ T'.heap.size := by rw [e1]; exact hz
  obtain ⟨j1, j2⟩ := va_join hP hD isC isR hC hR hn hdis hk1 hF (by rw [e1]; exact hP1) hD1
  obtain ⟨t2, a1, b1⟩ := kk ad T'.heap (locs ++ L) had ⟨j1, j2, ⟨Nat.le_trans hS.1 hz1, fun q g1 g2 => by rw [hk1 q (Nat.lt_of_lt_of_le g1 hS.1) (fun z => g2 (hF q z))]; exact hS.2.1 q g1 g2, fun q hq => by
      rcases List.mem_append.mp hq with h | h
      · exact hS.2.2 q h
      · exact hF _ (hL q h)⟩, hA⟩ T' rfl X'
  exact ⟨t2, st t2 a1, b1⟩
end KCN
/-- an array class of the tables' -/
theorem kt_ac {ty : FieldType} {args : Array Value} {s : State} (hn : ∀ C, ty ≠ .object C) (h : (Cond.arrayClass ty).before args s = true) : ∃ cA, ArrOfT s cA ty ∧ va_RA s cA ty := by
  obtain ⟨cA, k, comp, h1, h2, h3⟩ := Cond.arrayClass_spec h
  refine ⟨cA, fun n z => ⟨fun k h => (by cases h), k, h2, comp, h3⟩, ?_⟩
  cases ty with
  | object C => exact absurd rfl (hn C)
  | _ => exact h1
theorem kt_ao {t : FieldType} {args : Array Value} {s : State} (h : (Cond.arrayOver (.array t)).before args s = true) : ∃ cA, ArrOfT s cA (.array t) ∧ va_RA s cA (.array t) := by
  obtain ⟨comp, c, k, h1, -, h2, h3, h4⟩ := arrayOverA_spec h
  exact ⟨c, fun n z => ⟨fun k h => (by cases h), k, h2, comp, h3⟩, h4⟩
set_option maxRecDepth 100000 in
theorem kt_strs : ∀ q ∈ kstrs, Cond.stringRef RX0 q.1 q.2 ∈ lw_tbl := by decide +kernel
set_option maxRecDepth 100000 in
theorem kt_kws : ∀ w ∈ kws, w ∈ lw_tbl := by decide +kernel
theorem kt_kwo : ∀ w ∈ kws, w.onTables = true := by decide +kernel
set_option maxRecDepth 100000 in
theorem kt_ncs : ∀ E ∈ kexs, ∀ F ∈ kexs, E ≠ F → Cond.not (.castable E F) ∈ flatC (Jvm.Cond.and given_1 narrow_1) := by decide +kernel
set_option maxHeartbeats 4000000 in
set_option maxRecDepth 100000 in
theorem kt_E {s : State} {m : MethodId} {args : Array Value} (hts : ∀ w ∈ lw_tbl, w.before args s = true) (hgv : (Jvm.Cond.and given_1 narrow_1).before args s = true) : KE (fun q => s.heap.size ≤ q) s s.heap := by
  have hg := flat_of_before _ hgv
  refine ⟨vx_Zqof (args := args) (hts _ (by decide +kernel)) (hts _ (by decide +kernel)) (hg _ (by decide +kernel)) (fun a h => Nat.not_le.mpr h), vx_Zqof (args := args) (hts _ (by decide +kernel)) (hts _ (by decide +kernel)) (hg _ (by decide +kernel)) (fun a h => Nat.not_le.mpr h), fun q hq => ?_, fun w hw => va_Nw.of (kt_kwo w hw) (hts w (kt_kws w hw)), fun E hE F hF hn => va_Nc.of (hg _ (kt_ncs E hE F hF hn))⟩
  have h1 := hts _ (kt_strs q hq)
  obtain ⟨c0, iS0, hKn0⟩ := u_known (C := RX0) (T := TX0) (N := 12) (n := 12) hts (fun w hw => wk_tbl (wk_X0 w hw)) (hts _ (wk_tbl wk_14))
  obtain ⟨k, cf, i, a, -, -, -, -, -, hev⟩ := Cond.stringRef_spec hKn0.2.1 h1
  exact ⟨a, vk_R.of h1 hev⟩
set_option maxHeartbeats 4000000 in
set_option maxRecDepth 100000 in
theorem kt_K {s : State} {args : Array Value} (hts : ∀ w ∈ lw_tbl, w.before args s = true) : ∃ (D : va_G) (ca : Nat → ClassId), va_K D vwCl (ktys ca) s := by
  obtain ⟨c0, iS0, hKn0⟩ := u_known (C := RX0) (T := TX0) (N := 12) (n := 12) hts (fun w hw => wk_tbl (wk_X0 w hw)) (hts _ (wk_tbl wk_14))
  obtain ⟨c1, iS1, hKn1⟩ := u_known (C := RX1) (T := TX1) (N := 13) (n := 13) hts (fun w hw => wk_tbl (wk_X1 w hw)) (hts _ (wk_tbl wk_438))
  obtain ⟨a0, i0, r0⟩ := kt_ac (ty := .int) (fun C h => by cases h) (hts _ (wk_tbl wk_63))
  obtain ⟨a1, i1, r1⟩ := kt_ac (ty := .boolean) (fun C h => by cases h) (hts _ (wk_tbl wk_64))
  obtain ⟨a2, i2, r2⟩ := kt_ao (t := .int) (hts (.arrayOver (.array .int)) (by decide +kernel))
  obtain ⟨a3, i3, r3⟩ := kt_ac (ty := .long) (fun C h => by cases h) (hts _ (wk_tbl wk_635))
  refine ⟨(fun k => if k = 0 then c0 else c1, fun k => if k = 0 then iS0 else iS1), fun k => if k = 0 then a0 else if k = 1 then a1 else if k = 2 then a2 else a3, fun k q hq => ?_, fun k q hq => ?_⟩
  · match k, hq with
    | 0, hq => cases hq; exact hKn0
    | 1, hq => cases hq; exact hKn1
    | k + 2, hq => simp at hq
  · match k, hq with
    | 0, hq => cases hq; exact ⟨i0, r0⟩
    | 1, hq => cases hq; exact ⟨i1, r1⟩
    | 2, hq => cases hq; exact ⟨i2, r2⟩
    | 3, hq => cases hq; exact ⟨i3, r3⟩
    | k + 4, hq => simp [ktys] at hq
theorem kt_xfs : ∀ j, j < 12 → defaultValue (tyX0 j) = vp_V xFs j := fun j hj => by rcases (show j = 0 ∨ j = 1 ∨ j = 2 ∨ j = 3 ∨ j = 4 ∨ j = 5 ∨ j = 6 ∨ j = 7 ∨ j = 8 ∨ j = 9 ∨ j = 10 ∨ j = 11 by omega) with rfl | rfl | rfl | rfl | rfl | rfl | rfl | rfl | rfl | rfl | rfl | rfl <;> rfl
theorem kt_mfs : ∀ j, j < 13 → defaultValue (tyX1 j) = vp_V mFs j := fun j hj => by rcases (show j = 0 ∨ j = 1 ∨ j = 2 ∨ j = 3 ∨ j = 4 ∨ j = 5 ∨ j = 6 ∨ j = 7 ∨ j = 8 ∨ j = 9 ∨ j = 10 ∨ j = 11 ∨ j = 12 by omega) with rfl | rfl | rfl | rfl | rfl | rfl | rfl | rfl | rfl | rfl | rfl | rfl | rfl <;> rfl
set_option maxHeartbeats 4000000 in
set_option maxRecDepth 100000 in
/-- THE LAW, from its entry -/
theorem whole_start {p : Program} {e : Env} {s : State} {m : MethodId} {below : List Frame} {meth : Method} {c : Code} (l : Launch) (hflags : l.flags = flags0) {b L : Nat} {xs : Nat → Int32} (hL : L ≤ 2048) (C0 : lw_At p s m meth c b L xs) : W p l e room_1 s m #[Value.ref b] below meth c s.heap [] 0 0 (lw_Z below #[Value.ref b] s) (entryFrame m ([Value.ref b] : List Value).toArray 7) := by
  obtain ⟨hx, hb, hr, hml, hown, hts, hX, hbl, hlk, hgv⟩ := C0
  have hlS : l.stackTraces = false := by
    unfold Launch.stackTraces
    rw [hflags]
    rfl
  have hE := kt_E (m := m) hts hgv
  obtain ⟨D, ca, hK⟩ := kt_K hts
  have hO : va_AOA .int s := va_AOA.of (hts (.arrayOver (.array .int)) (by decide +kernel))
  have cx : KC p c code s #[Value.ref b] m RL D ca := ⟨hx, hb, hown, fun w hw => hts w (wk_tbl hw), hK⟩
  have hI : KI D (fun q => s.heap.size ≤ q) [] s.heap s.heap [] := ⟨fun k q h => by simp at h, ⟨fun i j p9 q9 h => by simp at h, fun k q h => by simp at h⟩, va_S.rf, fun q h => h⟩
  have hl := lv_entry ([.ref b]) (n := 7) (Nat.le_of_ble_eq_true rfl)
  rw [lg_entry_eq]
  generalize (lg_sl ([.ref b]) ++ List.replicate (7 - (lg_sl ([.ref b])).length) Slot.unset).toArray = ls at hl ⊢
  have hl : lv_has ls 7 [(0, .ref b)] := hl
  refine va_new (ci := 0) (fs := xFs) (C := RX0) (T := TX0) (N := 12) cx.1 cx.2.1 cx.2.2.2.1 wk_X0 tyX0 tyX0_ok cx.2.2.1 (cx.2.2.2.1 _ wk_13) (cx.2.2.2.1 _ wk_14) (cx.2.2.2.1 _ wk_1) hK hI.1 hI.2.1 hI.2.2.1 hI.2.2.2 rfl kt_xfs (Nat.le_of_ble_eq_true rfl) (Nat.le_of_ble_eq_true rfl) dL_law_0 (fun x0 H hP hD hS => ?_)
  have hI : KI D (fun q => s.heap.size ≤ q) [(x0, .inr (0, xFs))] s.heap H [] := ⟨hP, hD, hS, fun q h => h⟩
  refine W.widen (k := 1) (n := 12) (by omega) (by omega) ?_
  refine lv_dup cx.1 cx.2.1 dL_law_3 rfl ?_
  refine k_callN (rest := [.ref x0]) [] [0] [] cx hO (hl.1.trans hml.symm) (kX0_init l D ca x0) hI rfl rfl (by decide) (by decide) wk_17 wk_15 wk_16 wk_1 rfl ⟨by decide, by decide, by decide +kernel⟩ ⟨rfl, rfl⟩ ⟨Nat.le_of_ble_eq_true rfl, Nat.le_of_ble_eq_true rfl⟩ (Nat.le_of_ble_eq_true rfl) dL_law_4 ⟨Nat.le_of_ble_eq_true rfl, Nat.le_of_ble_eq_true rfl⟩ (fun xa H locs hxa hJ => ?_)
  subst hxa
  have hI : KI D (fun q => s.heap.size ≤ q) (xw xa ca xNew) s.heap H locs := hJ
  refine lv_astore_n (lv' := [(1, .ref (xa 0)), (0, .ref b)]) cx.1 cx.2.1 dL_law_7 rfl hl (by decide) rfl (fun ls hl => ?_)
  refine va_new (ci := 1) (fs := mFs) (C := RX1) (T := TX1) (N := 13) cx.1 cx.2.1 cx.2.2.2.1 wk_X1 tyX1 tyX1_ok cx.2.2.1 (cx.2.2.2.1 _ wk_437) (cx.2.2.2.1 _ wk_438) (cx.2.2.2.1 _ wk_3) hK hI.1 hI.2.1 hI.2.2.1 hI.2.2.2 rfl kt_mfs (Nat.le_of_ble_eq_true rfl) (Nat.le_of_ble_eq_true rfl) dL_law_8 (fun m0 H hP hD hS => ?_)
  have hI : KI D (fun q => s.heap.size ≤ q) (xw xa ca xNew ++ [(m0, .inr (1, mFs))]) s.heap H locs := ⟨hP, hD, hS, fun q h => h⟩
  refine lv_dup cx.1 cx.2.1 dL_law_11 rfl ?_
  refine k_callN (rest := [.ref m0]) (xw xa ca xNew) [9] [0, 1, 2, 3, 4, 5, 6, 7, 8] cx hO (hl.1.trans hml.symm) (kX1_init l D ca m0) hI rfl rfl (by decide) (by decide) wk_441 wk_439 wk_440 wk_3 rfl ⟨by decide, by decide, by decide +kernel⟩ ⟨rfl, rfl⟩ ⟨Nat.le_of_ble_eq_true rfl, Nat.le_of_ble_eq_true rfl⟩ (Nat.le_of_ble_eq_true rfl) dL_law_12 ⟨Nat.le_of_ble_eq_true rfl, Nat.le_of_ble_eq_true rfl⟩ (fun ma H locs hma hJ => ?_)
  subst hma
  have hI : KI D (fun q => s.heap.size ≤ q) (xw xa ca xNew ++ mw ma ca mNew) s.heap H locs := hJ
  refine lv_astore_n (lv' := [(2, .ref (ma 0)), (1, .ref (xa 0)), (0, .ref b)]) cx.1 cx.2.1 dL_law_15 rfl hl (by decide) rfl (fun ls hl => ?_)
  refine lv_iconst (v := 1) cx.1 cx.2.1 dL_law_16 (by decide) ?_
  refine k_newL 1 cx hI (by decide) (by decide) (by decide) ⟨Nat.le_of_ble_eq_true rfl, Nat.le_of_ble_eq_true rfl⟩ dL_law_17 (fun oa H hI => ?_)
  have hI : KI D (fun q => s.heap.size ≤ q) (ow oa ca (fun _ => 0) ++ (xw xa ca xNew ++ mw ma ca mNew)) s.heap H locs := ⟨hI.1.sub [15, 0, 1, 2, 3, 4, 5, 6, 7, 8, 9, 10, 11, 12, 13, 14] rfl, hI.2.1.sub [15, 0, 1, 2, 3, 4, 5, 6, 7, 8, 9, 10, 11, 12, 13, 14] (by decide) rfl, hI.2.2⟩
  refine lv_astore_n (lv' := [(3, .ref oa), (2, .ref (ma 0)), (1, .ref (xa 0)), (0, .ref b)]) cx.1 cx.2.1 dL_law_19 rfl hl (by decide) rfl (fun ls hl => ?_)
  refine lv_iconst (v := 0) cx.1 cx.2.1 dL_law_20 (by decide) ?_
  refine lv_istore (lv' := [(4, .int 0), (3, .ref oa), (2, .ref (ma 0)), (1, .ref (xa 0)), (0, .ref b)]) cx.1 cx.2.1 dL_law_21 hl (by decide) rfl (fun ls hl => ?_)
  refine W.widen (k := 16 + 0) (n := 3533 + 6 * 0) (Nat.le_of_ble_eq_true rfl) (Nat.le_of_ble_eq_true rfl) ?_
  exact ka_loop l cx hml hr hlk hE hlS hX hbl hL L 0 (by omega) (by omega) H locs ls xNew mNew (fun _ => 0) hI SR_new (lv_sub hl [0, 4, 3, 2, 1] rfl)

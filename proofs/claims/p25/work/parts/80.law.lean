/-! MINE: the law from its entry. -/
section CALLT
variable {p : Program} {l : Launch} {e : Env} {s : State} {m : MethodId} {args : Array Value} {below : List Frame} {meth : Method} {c : Code} {H : Heap} {locs : List Loc} {cells slots : Nat} {Q : State → Prop}
variable {cc : ByteArray} {pc : Nat} {ls : Array Slot} {D : va_G} {ca : Nat → ClassId} {b L : Nat} {xs : Nat → Int32}
theorem k_callT {a0 : Nat} (cx : KC p c cc s args m RL D ca) (hE : KE (fun q => s.heap.size ≤ q) s s.heap) (hO : va_AOA .int s) (hls : ls.size = c.maxLocals) (hM : CT l D ca b L xs (nI a0)) (hI : KI D (fun q => s.heap.size ≤ q) [] s.heap H locs) (hX : va_X b L xs s s.heap) (hbl : b < s.heap.size)
    (hdg : decode cc pc = .ok (.invokestatic 142, 3)) (hf : cells + 131 ≤ room_1.cells ∧ slots + 2046 ≤ room_1.slots)
    (kk : ∀ H1 locs1, KI D (fun q => s.heap.size ≤ q) [] s.heap H1 locs1 → W p l e room_1 s m args below meth c H1 locs1 (cells + 131) (slots + 2046) Q (F0 m (pc + 3) ls [.int 1])) : W p l e room_1 s m args below meth c H locs cells slots Q (F0 m pc ls [.int (nI a0), .ref b]) := by
  obtain ⟨hP, hD, hS, hA⟩ := hI
  have hbA : ¬ s.heap.size ≤ b := Nat.not_le.mpr hbl
  have hr := va_runS (e := e) (below := below) (meth := meth) (locs := locs) (As := [.ref b, .int (nI a0)]) (rest := []) ⟨cx.1, cx.2.1, rfl, cx.2.2.1, cx.2.2.2.1⟩ (hM H.size) (va_cwS 2 cx.2.2.2.1 (wk_S wk_14 wk_12 wk_13 wk_0) rfl rfl rfl ⟨by decide, by decide, by decide +kernel⟩ ⟨Nat.le_of_ble_eq_true rfl, Nat.le_of_ble_eq_true rfl⟩)
    ⟨fun a U g mk q => by
      obtain ⟨q0, q1, qK, qX, qb, qE, qO⟩ := q
      exact ⟨q0, q1, va_K.moved (u := U) (U := U.calling g mk a) (Vm.Alike.refl U.vm) qK, va_X.moved (u := U) (U := U.calling g mk a) (Vm.Alike.refl U.vm) qX, qb, KE.same (u := U) (U := U.calling g mk a) rfl qE, va_AOA.moved (u := U) (U := U.calling g mk a) (Vm.Alike.refl U.vm) qO⟩, fun U hU hWm => ⟨rfl, by rw [hU], va_K.moved hWm.alike cx.2.2.2.2, by rw [hU]; exact va_X.moved hWm.alike (hX.kept (hS.2.1 b hbl hbA)), Nat.lt_of_lt_of_le hbl hS.1, by rw [hU]; exact KE.to hWm hS.2.1 (fun q hq => Nat.le_trans hS.1 hq) hE, va_AOA.moved hWm.alike hO⟩⟩ (g := F0 m pc ls [.int (nI a0), .ref b]) rfl rfl hls rfl (lv_room (by decide)) hdg hf
  intro T hT X
  obtain ⟨v, st₀, t, T', L9, h0, X', hL9, e1, e2, ⟨hv, hz, hk⟩, st⟩ := hr T hT X
  have hv : v = some (.int 1) := by injection hv
  subst hv
  rw [h0] at hz hk
  have hk1 : ∀ q : Nat, q < H.size → T'.heap[q]? = H[q]? := fun q g1 => by rw [e1]; exact hk q g1 (Nat.not_le.mpr g1)
  have hz1 : H.size ≤ T'.heap.size := by rw [e1]; exact hz
  obtain ⟨t2, a1, b1⟩ := kk T'.heap (locs ++ L9) ⟨hP.kept (fun i q hi => hk1 q.1 (hP i q hi).lt), hD, ⟨Nat.le_trans hS.1 hz1, fun q g1 g2 => by rw [hk1 q (Nat.lt_of_lt_of_le g1 hS.1)]; exact hS.2.1 q g1 g2, fun q hq => by
      rcases List.mem_append.mp hq with h | h
      · exact hS.2.2 q h
      · exact Nat.le_trans hS.1 (hL9 q h)⟩, hA⟩ T' rfl X'
  exact ⟨t2, st t2 a1, b1⟩
end CALLT
set_option maxHeartbeats 4000000 in
set_option maxRecDepth 100000 in
/-- THE LAW, from its entry -/
theorem whole_start {p : Program} {e : Env} {s : State} {m : MethodId} {below : List Frame} {meth : Method} {c : Code} (l : Launch) (hflags : l.flags = flags0) {b L : Nat} {xs : Nat → Int32} (hL : L ≤ 260) (C0 : lw_At p s m meth c b L xs) : W p l e room_1 s m #[Value.ref b] below meth c s.heap [] 0 0 (lw_Z below #[Value.ref b] s) (entryFrame m ([Value.ref b] : List Value).toArray 1) := by
  obtain ⟨hx, hb, hr, hml, hown, hts, hX, hbl, hlk, hgv⟩ := C0
  have hlS : l.stackTraces = false := by
    unfold Launch.stackTraces
    rw [hflags]
    rfl
  have hE := kt_E (m := m) hts hgv
  obtain ⟨D, ca, hK⟩ := kt_K hts
  have hO : va_AOA .int s := va_AOA.of (hts (.arrayOver (.array .int)) (by decide +kernel))
  have cx : KC p c code s #[Value.ref b] m RL D ca := ⟨hx, hb, hown, fun w hw => hts w (wk_tbl hw), hK⟩
  have hI : KI D (fun q => s.heap.size ≤ q) [] s.heap s.heap [] := ⟨fun k q h => by simp at h, ⟨fun i j p9 q9 h => by simp at h, fun k q h => by simp at h⟩, va_S.rf, fun q h => h⟩
  have hl := lv_entry ([.ref b]) (n := 1) (Nat.le_of_ble_eq_true rfl)
  rw [lg_entry_eq]
  generalize (lg_sl ([.ref b]) ++ List.replicate (1 - (lg_sl ([.ref b])).length) Slot.unset).toArray = ls at hl ⊢
  have hl : lv_has ls 1 [(0, .ref b)] := hl
  refine lv_aload_n cx.1 cx.2.1 dL_law_0 rfl (lv_at hl 0 rfl) ?_
  refine lv_iconst (v := 0) cx.1 cx.2.1 dL_law_1 (by decide) ?_
  refine k_callT (a0 := 0) cx hE hO (hl.1.trans hml.symm) (kL_table l D ca b L xs hL (by decide) hlS) hI hX hbl dL_law_2 ⟨Nat.le_of_ble_eq_true rfl, Nat.le_of_ble_eq_true rfl⟩ (fun H locs hI => ?_)
  refine lv_if_eq (tgt := 32) cx.1 cx.2.1 dL_law_5 (by decide) (fun h9 => absurd h9 (by decide)) (fun _ => ?_)
  refine lv_aload_n cx.1 cx.2.1 dL_law_8 rfl (lv_at hl 0 rfl) ?_
  refine lv_sipush (v := 185) cx.1 cx.2.1 dL_law_9 (by decide) ?_
  refine k_callT (a0 := 185) cx hE hO (hl.1.trans hml.symm) (kL_table l D ca b L xs hL (by decide) hlS) hI hX hbl dL_law_12 ⟨Nat.le_of_ble_eq_true rfl, Nat.le_of_ble_eq_true rfl⟩ (fun H locs hI => ?_)
  refine lv_if_eq (tgt := 32) cx.1 cx.2.1 dL_law_15 (by decide) (fun h9 => absurd h9 (by decide)) (fun _ => ?_)
  refine lv_aload_n cx.1 cx.2.1 dL_law_18 rfl (lv_at hl 0 rfl) ?_
  refine lv_sipush (v := 370) cx.1 cx.2.1 dL_law_19 (by decide) ?_
  refine k_callT (a0 := 370) cx hE hO (hl.1.trans hml.symm) (kL_table l D ca b L xs hL (by decide) hlS) hI hX hbl dL_law_22 ⟨Nat.le_of_ble_eq_true rfl, Nat.le_of_ble_eq_true rfl⟩ (fun H locs hI => ?_)
  refine lv_if_eq (tgt := 32) cx.1 cx.2.1 dL_law_25 (by decide) (fun h9 => absurd h9 (by decide)) (fun _ => ?_)
  refine lv_iconst (v := 1) cx.1 cx.2.1 dL_law_28 (by decide) ?_
  refine lv_goto (tgt := 33) cx.1 cx.2.1 dL_law_29 (by decide) ?_
  refine va_forget (fun q hq => hI.2.2.1.2.2 q hq) ?_
  refine W.widen (k := 600130) (n := 7301080) (Nat.le_of_ble_eq_true rfl) (Nat.le_of_ble_eq_true rfl) ?_
  exact lw_ret cx.1 cx.2.1 hr hlk dL_law_33

/-! MINE: draw: a number below most, whatever the script. -/
def CD (l : Launch) (D : va_G) (ca : Nat → ClassId) (b L : Nat) (xs : Nat → Int32) (k most : Int32) (m : Nat) : Prop :=
  ∀ sz : Nat, Met l yL_draw (.code yL_draw cL_draw 4 (some .int) :: WL) (KR 0 0) (va_Pc [.ref b, .int k, .int most] (fun U => U.heap.size = sz ∧ va_K D vwCl (ktys ca) U ∧ va_X b L xs U U.heap ∧ b < sz)) (fun _ st oc t => (∃ r : Nat, r < m ∧ oc = .returned (some (.int (nI r)))) ∧ va_F (va_A [] sz) st t) 0 0 (va_A [] sz)
theorem nA {sz b : Nat} (h : b < sz) : ¬ va_A [] sz b := by
  rintro (⟨k, e, q⟩ | q)
  · simp at q
  · omega
section DRAW
variable {p : Program} {l : Launch} {e : Env} {R : Room} {s : State} {m : MethodId} {args : Array Value} {below : List Frame} {meth : Method} {c : Code} {H : Heap} {locs : List Loc} {cells slots : Nat} {Q : State → Prop}
variable {cc : ByteArray} {pc : Nat} {ls : Array Slot} {rest : List Value} {D : va_G} {ca : Nat → ClassId} {A : Nat → Prop} {own : String} {index b L : Nat} {xs : Nat → Int32} {W0 : va_W}
set_option maxHeartbeats 4000000 in
set_option maxRecDepth 100000 in
theorem draw_walk {kk m9 : Nat} {most : Int32} (hL : L ≤ 260) (hk : kk < 2000) (h0 : 0 < m9) (hm : m9 < 2 ^ 31) (em : most = nI m9) (cx : KC p c cL_draw s #[Value.ref b, .int (nI kk), .int most] m RL D ca) (hr : meth.sig.returnType = some .int) (hlk : meth.locks = false) (hX : va_X b L xs s s.heap) (hbl : b < s.heap.size) (hl : lv_has ls 4 [(0, .ref b), (1, .int (nI kk)), (2, .int most)]) : W p l e (KR 0 0) s m #[Value.ref b, .int (nI kk), .int most] below meth c s.heap [] 0 0 (MQ below (fun _ st oc t => (∃ r : Nat, r < m9 ∧ oc = .returned (some (.int (nI r)))) ∧ va_F (va_A [] s.heap.size) st t) #[Value.ref b, .int (nI kk), .int most] s 0 0 (va_A [] s.heap.size)) (F0 m 0 ls []) := by
  have hS : va_S (va_A [] s.heap.size) s.heap s.heap [] := va_S.rf
  have rest : ∀ x : Int32, W p l e (KR 0 0) s m #[Value.ref b, .int (nI kk), .int most] below meth c s.heap [] 0 0 (MQ below (fun _ st oc t => (∃ r : Nat, r < m9 ∧ oc = .returned (some (.int (nI r)))) ∧ va_F (va_A [] s.heap.size) st t) #[Value.ref b, .int (nI kk), .int most] s 0 0 (va_A [] s.heap.size)) (F0 m 23 ls [.int x]) := by
    intro x
    refine lv_istore_n (lv' := [(3, .int x), (0, .ref b), (1, .int (nI kk)), (2, .int most)]) cx.1 cx.2.1 dL_draw_23 rfl hl (by decide) rfl (fun ls hl => ?_)
    refine lv_iload_n cx.1 cx.2.1 dL_draw_24 rfl (lv_at hl 0 rfl) ?_
    refine lv_ldc (v := 2147483647) cx.1 cx.2.1 cx.2.2.1 (cx.2.2.2.1 _ wk_73) dL_draw_25 ?_
    refine lv_iand cx.1 cx.2.1 dL_draw_27 ?_
    obtain ⟨j, hj, ej⟩ := pk_andE x (m := 2147483647) 31 rfl
    refine k_top ej ?_
    refine lv_iload_n cx.1 cx.2.1 dL_draw_28 rfl (lv_at hl 3 rfl) ?_
    refine lv_irem cx.1 cx.2.1 dL_draw_29 (by rw [em]; exact nI_ne0 h0 hm) ?_
    refine k_top (y := nI (j % m9)) (by rw [em]; exact pk_rem hj h0 hm) ?_
    exact W.iret cx.1 cx.2.1 hr (fun t ht hW => ⟨⟨j % m9, Nat.mod_lt _ h0, rfl⟩, hS.F ht⟩) hS.2.2 dL_draw_30 hlk
  refine lv_iload_n cx.1 cx.2.1 dL_draw_0 rfl (lv_at hl 1 rfl) ?_
  refine lv_aload_n cx.1 cx.2.1 dL_draw_1 rfl (lv_at hl 0 rfl) ?_
  refine va_slen cx.1 cx.2.1 hX hbl (nA hbl) hS dL_draw_2 ?_
  refine lv_icmp_ge (tgt := 12) cx.1 cx.2.1 dL_draw_3 (by decide) (fun _ => ?_) (fun h => ?_)
  · refine lv_ldc (v := 970057669) cx.1 cx.2.1 cx.2.2.1 (cx.2.2.2.1 _ wk_71) dL_draw_12 ?_
    refine lv_iload_n cx.1 cx.2.1 dL_draw_14 rfl (lv_at hl 1 rfl) ?_
    refine lv_sipush (v := 223) cx.1 cx.2.1 dL_draw_15 (by decide) ?_
    refine lv_iadd cx.1 cx.2.1 dL_draw_18 ?_
    refine lv_imul cx.1 cx.2.1 dL_draw_19 ?_
    refine lv_ldc (v := 718652401) cx.1 cx.2.1 cx.2.2.1 (cx.2.2.2.1 _ wk_72) dL_draw_20 ?_
    refine lv_iadd cx.1 cx.2.1 dL_draw_22 ?_
    exact rest _
  · refine lv_aload_n cx.1 cx.2.1 dL_draw_6 rfl (lv_at hl 0 rfl) ?_
    refine lv_iload_n cx.1 cx.2.1 dL_draw_7 rfl (lv_at hl 1 rfl) ?_
    have hlt : kk < L := Nat.not_le.mp fun q => h (nI_le q (by omega))
    refine va_sld cx.1 cx.2.1 hX hbl (nA hbl) hS (vp_in_nI hlt (by omega)) dL_draw_8 ?_
    refine lv_goto (tgt := 23) cx.1 cx.2.1 dL_draw_9 (by decide) ?_
    exact rest _
end DRAW
theorem kL_draw (l : Launch) (D : va_G) (ca : Nat → ClassId) (b L : Nat) (xs : Nat → Int32) (hL : L ≤ 260) {kk m9 : Nat} (hk : kk < 2000) (h0 : 0 < m9) (hm : m9 < 2 ^ 31) {most : Int32} (em : most = nI m9) : CD l D ca b L xs (nI kk) most m9 := by
  intro sz
  refine Met.ofW (cc := cL_draw) (maxL := 4) (ret := some .int) (by decide) rfl ?_
  intro p e s m args below meth c s₁ B hml hv
  obtain ⟨rfl, hsz, hK, hX, hb⟩ := hv
  have hts := atoms_spec (ws := .code yL_draw cL_draw 4 (some .int) :: WL) B.pre
  have hown : s.vm.findClass yL_draw.cls = some m.cls := findClass_of_methodNamed B.named
  subst hsz
  have hl := lv_entry [.ref b, .int (nI kk), .int most] (n := 4) (Nat.le_of_ble_eq_true rfl)
  rw [lg_entry_eq]
  exact draw_walk hL hk h0 hm em ⟨B.exec, B.bytes, hown, fun w hw => hts w (List.mem_cons_of_mem _ hw), hK⟩ B.returns B.notSynchronized hX hb hl
section CALLD
variable {p : Program} {l : Launch} {e : Env} {R : Room} {s : State} {m : MethodId} {args : Array Value} {below : List Frame} {meth : Method} {c : Code} {H : Heap} {locs : List Loc} {cells slots : Nat} {Q : State → Prop}
variable {cc : ByteArray} {pc : Nat} {ls : Array Slot} {rest : List Value} {D : va_G} {ca : Nat → ClassId} {A : Nat → Prop} {own : String} {index b L : Nat} {xs : Nat → Int32} {W0 : va_W}
theorem k_callD {k most : Int32} {m9 : Nat} (cx : KC p c cc s args m own D ca) (hls : ls.size = c.maxLocals) (hM : CD l D ca b L xs k most m9) (hI : KI D A W0 s.heap H locs) (hX : va_X b L xs s s.heap) (hbl : b < s.heap.size) (hbA : ¬ A b)
    (h1 : Cond.methodLink own index yL_draw ∈ WL) (hR : 1 ≤ R.frames ∧ 23 ≤ R.locals) (hW : (rest.map fun v => v.category).sum ≤ 8) (hdg : decode cc pc = .ok (.invokestatic index, 3)) (hf : cells ≤ R.cells ∧ slots ≤ R.slots)
    (kk : ∀ r, r < m9 → ∀ H1 locs1, KI D A W0 s.heap H1 locs1 → W p l e R s m args below meth c H1 locs1 cells slots Q (F0 m (pc + 3) ls (.int (nI r) :: rest))) : W p l e R s m args below meth c H locs cells slots Q (F0 m pc ls (.int most :: .int k :: .ref b :: rest)) := by
  obtain ⟨hP, hD, hS, hA⟩ := hI
  have hr := va_runS (e := e) (below := below) (meth := meth) (locs := locs) (As := [.ref b, .int k, .int most]) (rest := rest) ⟨cx.1, cx.2.1, rfl, cx.2.2.1, cx.2.2.2.1⟩ (hM H.size) (va_cwS 3 cx.2.2.2.1 (wk_S wk_70 h1 wk_69 wk_0) rfl rfl rfl ⟨by decide, by decide, by decide +kernel⟩ hR)
    ⟨fun a U g mk q => by
      obtain ⟨q0, q1, qK, qX, qb⟩ := q
      exact ⟨q0, q1, va_K.moved (u := U) (U := U.calling g mk a) (Vm.Alike.refl U.vm) qK, va_X.moved (u := U) (U := U.calling g mk a) (Vm.Alike.refl U.vm) qX, qb⟩, fun U hU hWm => ⟨rfl, by rw [hU], va_K.moved hWm.alike cx.2.2.2.2, by rw [hU]; exact va_X.moved hWm.alike (hX.kept (hS.2.1 b hbl hbA)), Nat.lt_of_lt_of_le hbl hS.1⟩⟩ (g := F0 m pc ls (.int most :: .int k :: .ref b :: rest)) rfl rfl hls rfl (lv_room hW) hdg hf
  intro T hT X
  obtain ⟨v, st₀, t, T', L9, h0, X', hL9, e1, e2, ⟨⟨r, hr9, hv⟩, hz, hk⟩, st⟩ := hr T hT X
  have hv : v = some (.int (nI r)) := by injection hv
  subst hv
  rw [h0] at hz hk
  have hF : ∀ q, va_A [] H.size q → A q := fun q hq => by
    rcases hq with ⟨i, e, z⟩ | z
    · simp at z
    · exact hA q (Nat.le_trans hS.1 z)
  have hk1 : ∀ q : Nat, q < H.size → T'.heap[q]? = H[q]? := fun q g1 => by rw [e1]; exact hk q g1 (nA g1)
  have hz1 : H.size ≤ T'.heap.size := by rw [e1]; exact hz
  obtain ⟨t2, a1, b1⟩ := kk r hr9 T'.heap (locs ++ L9) ⟨hP.kept (fun i q hi => hk1 q.1 (hP i q hi).lt), hD, ⟨Nat.le_trans hS.1 hz1, fun q g1 g2 => by rw [hk1 q (Nat.lt_of_lt_of_le g1 hS.1)]; exact hS.2.1 q g1 g2, fun q hq => by
      rcases List.mem_append.mp hq with h | h
      · exact hS.2.2 q h
      · exact hF _ (hL9 q h)⟩, hA⟩ T' rfl X'
  exact ⟨t2, st t2 a1, b1⟩
end CALLD

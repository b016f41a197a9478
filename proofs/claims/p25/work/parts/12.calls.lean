/-! MINE: a row a call. -/
theorem wk_V {own C : String} {i : Nat} {y : MethodName} {b : ByteArray} {ml : Nat} {rt : Option FieldType} (h0 : Cond.code y b ml rt ∈ WL) (h1 : Cond.methodLink own i y ∈ WL) (h2 : Cond.instanceMethod y ∈ WL) (h3 : Cond.selects C y y ∈ WL) (h4 : Cond.initialized C ∈ WL) : GoodIn WL (wsV own i C y (.code y b ml rt :: WL)) := fun w hw => by
  have h : w ∈ WL := by
    unfold wsV at hw
    simp only [List.cons_append, List.nil_append, List.mem_cons] at hw
    rcases hw with rfl | rfl | rfl | rfl | rfl | hw
    · exact h1
    · exact h2
    · exact h3
    · exact h4
    · exact h0
    · exact hw
  exact ⟨h, good_of_word (List.mem_filter.mp h).2⟩
theorem wk_S {own : String} {i : Nat} {y : MethodName} {cw : Cond} (h0 : cw ∈ WL) (h1 : Cond.methodLink own i y ∈ WL) (h2 : Cond.static y ∈ WL) (h4 : Cond.initialized y.cls ∈ WL) : GoodIn WL (va_wsS own i y (cw :: WL)) := fun w hw => by
  have h : w ∈ WL := by
    unfold va_wsS at hw
    simp only [List.cons_append, List.nil_append, List.mem_cons] at hw
    rcases hw with rfl | rfl | rfl | rfl | hw
    · exact h1
    · exact h2
    · exact h4
    · exact h0
    · exact hw
  exact ⟨h, good_of_word (List.mem_filter.mp h).2⟩
section KCALL
variable {p : Program} {l : Launch} {e : Env} {R : Room} {s : State} {m : MethodId} {args : Array Value} {below : List Frame} {meth : Method} {c : Code} {H : Heap} {locs : List Loc} {cells slots : Nat} {Q : State → Prop}
variable {cc : ByteArray} {pc : Nat} {ls : Array Slot} {rest : List Value} {D : va_G} {ca : Nat → ClassId} {A : Nat → Prop} {own : String}
variable {y : MethodName} {bytes : ByteArray} {maxL index n mc ms : Nat} {ret : Option FieldType} {rm : Room} {w w' pre post W0 W1 : va_W} {o : Option Value} {As : List Value} {b : Nat} {st0 : List Value} {φ : Prop} {ψ : String → Prop}
theorem k_run (hr : va_Run p l e R s m args below meth c H locs cells slots mc ms (F0 m pc ls st0) rest (KQ D w' o (va_A w H.size) As.toArray) (va_A w H.size))
    (hI : KI D A W0 s.heap H locs) (e0 : W0 = pre ++ (w ++ post)) (e1 : W1 = pre ++ (w' ++ post)) (had : w'.map Prod.fst = w.map Prod.fst)
    (kk : ∀ H1 locs1, KI D A W1 s.heap H1 locs1 → W p l e R s m args below meth c H1 locs1 (cells + mc) (slots + ms) Q (F0 m (pc + 3) ls (o.toList ++ rest))) : W p l e R s m args below meth c H locs cells slots Q (F0 m pc ls st0) := by
  subst e0 e1
  obtain ⟨hP, hD, hS, hA⟩ := hI
  have hF := kf_free hD hS hA
  intro T hT X
  obtain ⟨v, st₀, t, T', L, h0, X', hL, e1, e2, ⟨hv, hP1, hz, hk⟩, st⟩ := hr T hT X
  have hv : v = o := by injection hv
  subst hv
  rw [h0] at hz hk
  have hk1 : ∀ q : Nat, q < H.size → ¬ va_A w H.size q → T'.heap[q]? = H[q]? := fun q h1 h2 => by rw [e1]; exact hk q h1 h2
  have hz1 : H.size ≤ T'.heap.size := by rw [e1]; exact hz
  obtain ⟨t2, a1, b1⟩ := kk T'.heap (locs ++ L) ⟨kf_P hP hD hk1 (by rw [e1]; exact hP1), kf_Dw had hD, ⟨Nat.le_trans hS.1 hz1, fun q h1 h2 => by rw [hk1 q (Nat.lt_of_lt_of_le h1 hS.1) (fun z => h2 (hF q z))]; exact hS.2.1 q h1 h2, fun q hq => by
      rcases List.mem_append.mp hq with h | h
      · exact hS.2.2 q h
      · exact hF _ (hL q h)⟩, hA⟩ T' rfl X'
  exact ⟨t2, st t2 a1, b1⟩
theorem k_preV (hK : va_K D vwCl (ktys ca) s) (hP : va_P D vwCl w H) (hD : va_D A w) {ci : Nat} {q : vw_C} {fs : List Value} (hc : vwCl[ci]? = some q) (he : w[0]? = some (b, .inr (ci, fs))) : PreV s H q.1 b (KP D ca w (.ref b :: As) H.size) As :=
  ⟨KP.blind, va_recv hK hP hc he, fun U hU hW => ⟨rfl, by rw [hU], by rw [hU]; exact hP, va_K.moved hW.alike hK, hD.weaken (fun _ _ _ _ => trivial)⟩⟩
theorem k_preS (hK : va_K D vwCl (ktys ca) s) (hP : va_P D vwCl w H) (hD : va_D A w) : PreS s H (KP D ca w As H.size) As :=
  ⟨KP.blind, fun U hU hW => ⟨rfl, by rw [hU], by rw [hU]; exact hP, va_K.moved hW.alike hK, hD.weaken (fun _ _ _ _ => trivial)⟩⟩
theorem k_preVE (hK : va_K D vwCl (ktys ca) s) (hP : va_P D vwCl w H) (hD : va_D A w) (hE : KE A s s.heap) (hS : va_S A s.heap H locs) (hF : ∀ q, va_A w H.size q → A q) {ci : Nat} {q : vw_C} {fs : List Value} (hc : vwCl[ci]? = some q) (he : w[0]? = some (b, .inr (ci, fs))) : PreV s H q.1 b (KPE D ca w (.ref b :: As) H.size) As :=
  ⟨KPE.blind, va_recv hK hP hc he, fun U hU hW => ⟨rfl, by rw [hU], by rw [hU]; exact hP, va_K.moved hW.alike hK, hD.weaken (fun _ _ _ _ => trivial), by rw [hU]; exact KE.to hW hS.2.1 hF hE⟩⟩
theorem k_preSE (hK : va_K D vwCl (ktys ca) s) (hP : va_P D vwCl w H) (hD : va_D A w) (hE : KE A s s.heap) (hS : va_S A s.heap H locs) (hF : ∀ q, va_A w H.size q → A q) : PreS s H (KPE D ca w As H.size) As :=
  ⟨KPE.blind, fun U hU hW => ⟨rfl, by rw [hU], by rw [hU]; exact hP, va_K.moved hW.alike hK, hD.weaken (fun _ _ _ _ => trivial), by rw [hU]; exact KE.to hW hS.2.1 hF hE⟩⟩
/-- a call of a method of an object, the rest of the world around it -/
theorem k_callV (n : Nat) (pre post : va_W) {C : String} {T : u_T} {N ci : Nat} {fs : List Value} (cx : KC p c cc s args m own D ca) (hls : ls.size = c.maxLocals) (hM : CM l y bytes maxL ret rm D ca w (.ref b :: As) o w')
    (hI : KI D A W0 s.heap H locs) (e0 : W0 = pre ++ (w ++ post)) (e1 : W1 = pre ++ (w' ++ post)) (had : w'.map Prod.fst = w.map Prod.fst)
    (hc : vwCl[ci]? = some (C, T, N)) (he : w[0]? = some (b, .inr (ci, fs)))
    (h0 : Cond.code y bytes maxL ret ∈ WL) (h1 : Cond.methodLink own index y ∈ WL) (h2 : Cond.instanceMethod y ∈ WL) (h3 : Cond.selects C y y ∈ WL) (h4 : Cond.initialized C ∈ WL)
    (hd : y.cls = C ∧ y.cls ≠ "java/lang/invoke/MethodHandle" ∧ y.cls ≠ "java/lang/invoke/VarHandle" ∧ (parseMethodDescriptor y.desc).map (fun d => d.parameters.length) = some n) (hn : As.length = n)
    (hrm : rm.cells = 0 ∧ rm.slots = 0) (hR : rm.frames + 1 ≤ R.frames ∧ 8 + (maxL + 11) + rm.locals ≤ R.locals) (hW : (rest.map fun v => v.category).sum ≤ 8) (hdg : decode cc pc = .ok (.invokevirtual index, 3)) (hf : cells ≤ R.cells ∧ slots ≤ R.slots)
    (hst : st0 = As.reverse ++ .ref b :: rest) (kk : ∀ H1 locs1, KI D A W1 s.heap H1 locs1 → W p l e R s m args below meth c H1 locs1 cells slots Q (F0 m (pc + 3) ls (o.toList ++ rest))) : W p l e R s m args below meth c H locs cells slots Q (F0 m pc ls st0) := by
  obtain ⟨hP, hD, hS, hA⟩ := id hI
  rw [e0] at hP hD
  exact k_run (va_runV (As := As) (rest := rest) ⟨cx.1, cx.2.1, rfl, cx.2.2.1, cx.2.2.2.1⟩ (hM H.size) (cwV n cx.2.2.2.1 (wk_V h0 h1 h2 h3 h4) rfl hrm.1 hrm.2 hd hR) (k_preV cx.2.2.2.2 (kf_at hP) (kf_Dat hD) hc he) rfl hn hls hst (lv_room hW) hdg hf) hI e0 e1 had kk
/-- a call of a static method -/
theorem k_callS (n : Nat) (pre post : va_W) (cx : KC p c cc s args m own D ca) (hls : ls.size = c.maxLocals) (hM : CM l y bytes maxL ret rm D ca w As o w')
    (hI : KI D A W0 s.heap H locs) (e0 : W0 = pre ++ (w ++ post)) (e1 : W1 = pre ++ (w' ++ post)) (had : w'.map Prod.fst = w.map Prod.fst)
    (h0 : Cond.code y bytes maxL ret ∈ WL) (h1 : Cond.methodLink own index y ∈ WL) (h2 : Cond.static y ∈ WL) (h4 : Cond.initialized y.cls ∈ WL)
    (hd : y.cls ≠ "java/lang/invoke/MethodHandle" ∧ y.cls ≠ "java/lang/invoke/VarHandle" ∧ (parseMethodDescriptor y.desc).map (fun d => d.parameters.length) = some n) (hn : As.length = n)
    (hrm : rm.cells = 0 ∧ rm.slots = 0) (hR : rm.frames + 1 ≤ R.frames ∧ 8 + (maxL + 11) + rm.locals ≤ R.locals) (hW : (rest.map fun v => v.category).sum ≤ 8) (hdg : decode cc pc = .ok (.invokestatic index, 3)) (hf : cells ≤ R.cells ∧ slots ≤ R.slots)
    (hst : st0 = As.reverse ++ rest) (kk : ∀ H1 locs1, KI D A W1 s.heap H1 locs1 → W p l e R s m args below meth c H1 locs1 cells slots Q (F0 m (pc + 3) ls (o.toList ++ rest))) : W p l e R s m args below meth c H locs cells slots Q (F0 m pc ls st0) := by
  obtain ⟨hP, hD, hS, hA⟩ := id hI
  rw [e0] at hP hD
  exact k_run (va_runS (As := As) (rest := rest) ⟨cx.1, cx.2.1, rfl, cx.2.2.1, cx.2.2.2.1⟩ (hM H.size) (va_cwS n cx.2.2.2.1 (wk_S h0 h1 h2 h4) rfl hrm.1 hrm.2 hd hR) (k_preS cx.2.2.2.2 (kf_at hP) (kf_Dat hD)) rfl hn hls hst (lv_room hW) hdg hf) hI e0 e1 had kk
/-- a call of one of the law's methods with handlers -/
theorem k_callH (n : Nat) (pre post : va_W) {hh : List (Nat × Nat × Nat × Nat)} (cx : KC p c cc s args m own D ca) (hE : KE A s s.heap) (hls : ls.size = c.maxLocals) (hM : CH l y bytes maxL ret hh rm D ca w As o w')
    (hI : KI D A W0 s.heap H locs) (e0 : W0 = pre ++ (w ++ post)) (e1 : W1 = pre ++ (w' ++ post)) (had : w'.map Prod.fst = w.map Prod.fst)
    (h0 : Cond.codeWith y bytes maxL ret hh ∈ WL) (h1 : Cond.methodLink own index y ∈ WL) (h2 : Cond.static y ∈ WL) (h4 : Cond.initialized y.cls ∈ WL)
    (hd : y.cls ≠ "java/lang/invoke/MethodHandle" ∧ y.cls ≠ "java/lang/invoke/VarHandle" ∧ (parseMethodDescriptor y.desc).map (fun d => d.parameters.length) = some n) (hn : As.length = n)
    (hrm : rm.cells = 1 ∧ rm.slots = 6) (hR : rm.frames + 1 ≤ R.frames ∧ 8 + (maxL + 11) + rm.locals ≤ R.locals) (hW : (rest.map fun v => v.category).sum ≤ 8) (hdg : decode cc pc = .ok (.invokestatic index, 3)) (hf : cells + 1 ≤ R.cells ∧ slots + 6 ≤ R.slots)
    (hst : st0 = As.reverse ++ rest) (kk : ∀ H1 locs1, KI D A W1 s.heap H1 locs1 → W p l e R s m args below meth c H1 locs1 (cells + 1) (slots + 6) Q (F0 m (pc + 3) ls (o.toList ++ rest))) : W p l e R s m args below meth c H locs cells slots Q (F0 m pc ls st0) := by
  obtain ⟨hP, hD, hS, hA⟩ := id hI
  rw [e0] at hP hD
  exact k_run (vx_runSW (As := As) (rest := rest) ⟨cx.1, cx.2.1, rfl, cx.2.2.1, cx.2.2.2.1⟩ (hM H.size) (vx_cwSW n cx.2.2.2.1 (wk_S h0 h1 h2 h4) rfl hrm.1 hrm.2 hd hR) (k_preSE cx.2.2.2.2 (kf_at hP) (kf_Dat hD) hE hS (kf_free hD hS hA)) rfl hn hls hst (lv_room hW) hdg hf) hI e0 e1 had kk
/-- a call that may throw: kx is where it throws -/
theorem k_callX (n : Nat) (pre post : va_W) {C : String} {T : u_T} {N ci : Nat} {fs : List Value} (cx : KC p c cc s args m own D ca) (hE : KE A s s.heap) (hls : ls.size = c.maxLocals) (hM : CX l y bytes maxL ret rm D ca w (.ref b :: As) φ o w' ψ)
    (hI : KI D A W0 s.heap H locs) (e0 : W0 = pre ++ (w ++ post)) (e1 : W1 = pre ++ (w' ++ post)) (had : w'.map Prod.fst = w.map Prod.fst)
    (hc : vwCl[ci]? = some (C, T, N)) (he : w[0]? = some (b, .inr (ci, fs)))
    (h0 : Cond.code y bytes maxL ret ∈ WL) (h1 : Cond.methodLink own index y ∈ WL) (h2 : Cond.instanceMethod y ∈ WL) (h3 : Cond.selects C y y ∈ WL) (h4 : Cond.initialized C ∈ WL)
    (hd : y.cls = C ∧ y.cls ≠ "java/lang/invoke/MethodHandle" ∧ y.cls ≠ "java/lang/invoke/VarHandle" ∧ (parseMethodDescriptor y.desc).map (fun d => d.parameters.length) = some n) (hn : As.length = n)
    (hrm : rm.cells = 1 ∧ rm.slots = 6) (hR : rm.frames + 1 ≤ R.frames ∧ 8 + (maxL + 11) + rm.locals ≤ R.locals) (hW : (rest.map fun v => v.category).sum ≤ 8) (hdg : decode cc pc = .ok (.invokevirtual index, 3)) (hf : cells + 1 ≤ R.cells ∧ slots + 6 ≤ R.slots)
    (hst : st0 = As.reverse ++ .ref b :: rest)
    (kx : ∀ E ce q9 H1 locs1, ψ E → KI D A W0 s.heap H1 locs1 → H1[q9]? = some ce → ce.vm = .none → s.vm.findClass E = some ce.cls → vx_W p l e R s m args below meth c H1 locs1 (cells + 1) (slots + 6) Q (F0 m pc ls rest) q9)
    (kk : φ → ∀ H1 locs1, KI D A W1 s.heap H1 locs1 → W p l e R s m args below meth c H1 locs1 (cells + 1) (slots + 6) Q (F0 m (pc + 3) ls (o.toList ++ rest))) : W p l e R s m args below meth c H locs cells slots Q (F0 m pc ls st0) := by
  subst e0 e1
  obtain ⟨hP, hD, hS, hA⟩ := hI
  have hF := kf_free hD hS hA
  have hr := vx_runV (e := e) (below := below) (meth := meth) (locs := locs) (As := As) (rest := rest) ⟨cx.1, cx.2.1, rfl, cx.2.2.1, cx.2.2.2.1⟩ (hM H.size) (cwV n cx.2.2.2.1 (wk_V h0 h1 h2 h3 h4) rfl hrm.1 hrm.2 hd hR) (k_preVE cx.2.2.2.2 (kf_at hP) (kf_Dat hD) hE hS hF hc he) (g := F0 m pc ls st0) rfl hn hls hst (lv_room hW) hdg hf
  intro T hT X
  rcases hr T hT X with ⟨v, st₀, t, T', L, h0, X', hL, e1, e2, ⟨hφ, hv, hP1, hz, hk⟩, st⟩ | ⟨q, st₀, t, T', L, E, ce, h0, X', hL, e1, e2, ⟨hψ, hP1, hz, hk⟩, hce, hcv, hcl, st⟩
  · have hv : v = o := by injection hv
    subst hv
    rw [h0] at hz hk
    have hk1 : ∀ q : Nat, q < H.size → ¬ va_A w H.size q → T'.heap[q]? = H[q]? := fun q h1 h2 => by rw [e1]; exact hk q h1 h2
    have hz1 : H.size ≤ T'.heap.size := by rw [e1]; exact hz
    obtain ⟨t2, a1, b1⟩ := kk hφ T'.heap (locs ++ L) ⟨kf_P hP hD hk1 (by rw [e1]; exact hP1), kf_Dw had hD, ⟨Nat.le_trans hS.1 hz1, fun q h1 h2 => by rw [hk1 q (Nat.lt_of_lt_of_le h1 hS.1) (fun z => h2 (hF q z))]; exact hS.2.1 q h1 h2, fun q hq => by
        rcases List.mem_append.mp hq with h | h
        · exact hS.2.2 q h
        · exact hF _ (hL q h)⟩, hA⟩ T' rfl X'
    exact ⟨t2, st t2 a1, b1⟩
  · rw [h0] at hz hk
    have hk1 : ∀ q : Nat, q < H.size → ¬ va_A w H.size q → T'.heap[q]? = H[q]? := fun q h1 h2 => by rw [e1]; exact hk q h1 h2
    have hz1 : H.size ≤ T'.heap.size := by rw [e1]; exact hz
    obtain ⟨t2, a1, b1⟩ := kx E ce q T'.heap (locs ++ L) hψ ⟨kf_P hP hD hk1 (by rw [e1]; exact hP1), hD, ⟨Nat.le_trans hS.1 hz1, fun q h1 h2 => by rw [hk1 q (Nat.lt_of_lt_of_le h1 hS.1) (fun z => h2 (hF q z))]; exact hS.2.1 q h1 h2, fun q hq => by
        rcases List.mem_append.mp hq with h | h
        · exact hS.2.2 q h
        · exact hF _ (hL q h)⟩, hA⟩ (by rw [e1]; exact hce) hcv hcl T' rfl X'
    exact ⟨t2, st.trans a1, b1⟩
end KCALL
section KEND
variable {p : Program} {l : Launch} {e : Env} {R : Room} {s : State} {m : MethodId} {args : Array Value} {below : List Frame} {meth : Method} {c : Code} {H : Heap} {locs : List Loc} {cells slots mc ms : Nat}
variable {cc : ByteArray} {pc : Nat} {ls : Array Slot} {D : va_G} {ca : Nat → ClassId} {A : Nat → Prop} {own : String} {w1 w' : va_W} {o : Option Value} {φ : Prop} {XC : String → State → State → Prop}
theorem ke_i {v : Int32} (cx : KC p c cc s args m own D ca) (hr : meth.sig.returnType = some .int) (hlk : meth.locks = false) (hI : KI D A w1 s.heap H locs) (hc : cells ≤ mc) (hs : slots ≤ ms) (hdg : decode cc pc = .ok (.ireturn, 1)) (eo : some (.int v) = o) (ew : w1 = w') :
    W p l e R s m args below meth c H locs cells slots (MQ below (KQ D w' o A) args s mc ms A) (F0 m pc ls [.int v]) := by
  subst eo ew
  refine W.widen hc hs ?_
  exact W.iret cx.1 cx.2.1 hr (fun t ht hW => ⟨rfl, by rw [ht]; exact hI.1, hI.2.2.1.F ht⟩) hI.2.2.1.2.2 hdg hlk
theorem ke_z {v : Int32} (cx : KC p c cc s args m own D ca) (hr : meth.sig.returnType = some .boolean) (hlk : meth.locks = false) (hI : KI D A w1 s.heap H locs) (hc : cells ≤ mc) (hs : slots ≤ ms) (hdg : decode cc pc = .ok (.ireturn, 1)) (hn : narrow .boolean (.int v) = .int v) (eo : some (.int v) = o) (ew : w1 = w') :
    W p l e R s m args below meth c H locs cells slots (MQ below (KQ D w' o A) args s mc ms A) (F0 m pc ls [.int v]) := by
  subst eo ew
  refine W.widen hc hs ?_
  exact W.zret cx.1 cx.2.1 hr hn (fun t ht hW => ⟨rfl, by rw [ht]; exact hI.1, hI.2.2.1.F ht⟩) hI.2.2.1.2.2 hdg hlk
theorem ke_v (cx : KC p c cc s args m own D ca) (hr : meth.sig.returnType = none) (hlk : meth.locks = false) (hI : KI D A w1 s.heap H locs) (hc : cells ≤ mc) (hs : slots ≤ ms) (hdg : decode cc pc = .ok (.return_, 1)) (eo : none = o) (ew : w1 = w') :
    W p l e R s m args below meth c H locs cells slots (MQ below (KQ D w' o A) args s mc ms A) (F0 m pc ls []) := by
  subst eo ew
  refine W.widen hc hs ?_
  exact W.vret cx.1 cx.2.1 hr (fun t ht hW => ⟨rfl, by rw [ht]; exact hI.1, hI.2.2.1.F ht⟩) hI.2.2.1.2.2 hdg hlk
/-- the end of a method that may throw, where it returns -/
theorem ke_x {g : JFrame} {Qc : Array Value → State → Outcome → State → Prop} (hφ : φ) (k : W p l e R s m args below meth c H locs cells slots (MQ below Qc args s mc ms A) g) : W p l e R s m args below meth c H locs cells slots (vx_MQ below (fun a st oc t => φ ∧ Qc a st oc t) XC args s mc ms A) g := by
  refine vx_ret ?_
  intro T hT X
  obtain ⟨t, a1, o, b1, b2, b3, b4⟩ := k T hT X
  exact ⟨t, a1, o, b1, b2, ⟨hφ, b3⟩, b4⟩
end KEND

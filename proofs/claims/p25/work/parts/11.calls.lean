/-! MINE: contracts in one form (CM returns, CX returns or throws, CH catches), and one row a call, with the frame around it. -/
section KFRAME
variable {D : va_G} {cl : List vw_C} {A : Nat → Prop} {pre w post w' ws ws' : va_W} {H H1 H0 : Heap} {locs : List Loc}
theorem kf_P (hP : va_P D cl (pre ++ (w ++ post)) H) (hD : va_D A (pre ++ (w ++ post))) (hk : ∀ q, q < H.size → ¬ va_A w H.size q → H1[q]? = H[q]?) (hP1 : va_P D cl w' H1) : va_P D cl (pre ++ (w' ++ post)) H1 := by
  have out : ∀ (i : Nat) (q : Nat × va_E), (pre ++ (w ++ post))[i]? = some q → (i < pre.length ∨ pre.length + w.length ≤ i) → va_at D cl q H1 := by
    intro i q hi hout
    have h := hP i q hi
    refine h.kept (hk q.1 h.lt ?_)
    rintro (⟨k, e, hk⟩ | hz)
    · have hkl : k < w.length := (List.getElem?_eq_some_iff.mp hk).1
      have h2 : (pre ++ (w ++ post))[pre.length + k]? = some (q.1, e) := by
        rw [List.getElem?_append_right (by omega), show pre.length + k - pre.length = k by omega, List.getElem?_append_left hkl]
        exact hk
      have := hD.1 i (pre.length + k) q (q.1, e) hi h2 rfl
      omega
    · exact absurd h.lt (Nat.not_lt.mpr hz)
  intro k q hq
  by_cases h1 : k < pre.length
  · rw [List.getElem?_append_left h1] at hq
    exact out k q (by rw [List.getElem?_append_left h1]; exact hq) (Or.inl h1)
  · rw [List.getElem?_append_right (by omega)] at hq
    by_cases h2 : k - pre.length < w'.length
    · rw [List.getElem?_append_left h2] at hq
      exact hP1 _ q hq
    · rw [List.getElem?_append_right (by omega)] at hq
      refine out (pre.length + (w.length + (k - pre.length - w'.length))) q ?_ (Or.inr (by omega))
      rw [List.getElem?_append_right (by omega), show pre.length + (w.length + (k - pre.length - w'.length)) - pre.length = w.length + (k - pre.length - w'.length) by omega, List.getElem?_append_right (by omega), show w.length + (k - pre.length - w'.length) - w.length = k - pre.length - w'.length by omega]
      exact hq
theorem kf_D (h : ws'.map Prod.fst = ws.map Prod.fst) (hD : va_D A ws) : va_D A ws' := by
  have g : ∀ (k : Nat) (q : Nat × va_E), ws'[k]? = some q → ∃ q0, ws[k]? = some q0 ∧ q0.1 = q.1 := by
    intro k q hk
    have e : (ws'.map Prod.fst)[k]? = (ws.map Prod.fst)[k]? := by rw [h]
    rw [List.getElem?_map, List.getElem?_map, hk] at e
    cases hw : ws[k]? with
    | none => rw [hw] at e; cases e
    | some q0 => rw [hw] at e; exact ⟨q0, rfl, (Option.some.inj e).symm⟩
  refine ⟨fun i j p q hi hj hpq => ?_, fun k q hk => ?_⟩
  · obtain ⟨p0, h1, h2⟩ := g i p hi
    obtain ⟨q0, h3, h4⟩ := g j q hj
    exact hD.1 i j p0 q0 h1 h3 (by rw [h2, h4, hpq])
  · obtain ⟨q0, h1, h2⟩ := g k q hk
    rw [← h2]
    exact hD.2 k q0 h1
theorem kf_Dw (had : w'.map Prod.fst = w.map Prod.fst) (hD : va_D A (pre ++ (w ++ post))) : va_D A (pre ++ (w' ++ post)) :=
  kf_D (by rw [List.map_append, List.map_append, List.map_append, List.map_append, had]) hD
theorem kf_at (hP : va_P D cl (pre ++ (w ++ post)) H) : va_P D cl w H := fun k q hk => by
  have hkl : k < w.length := (List.getElem?_eq_some_iff.mp hk).1
  refine hP (pre.length + k) q ?_
  rw [List.getElem?_append_right (by omega), show pre.length + k - pre.length = k by omega, List.getElem?_append_left hkl]
  exact hk
theorem kf_Dat (hD : va_D A (pre ++ (w ++ post))) : va_D A w := by
  have g : ∀ (k : Nat) (q : Nat × va_E), w[k]? = some q → (pre ++ (w ++ post))[pre.length + k]? = some q := by
    intro k q hk
    have hkl : k < w.length := (List.getElem?_eq_some_iff.mp hk).1
    rw [List.getElem?_append_right (by omega), show pre.length + k - pre.length = k by omega, List.getElem?_append_left hkl]
    exact hk
  refine ⟨fun i j p q hi hj hpq => ?_, fun k q hk => hD.2 _ q (g k q hk)⟩
  have := hD.1 _ _ p q (g i p hi) (g j q hj) hpq
  omega
theorem kf_free (hD : va_D A (pre ++ (w ++ post))) (hS : va_S A H0 H locs) (hA : ∀ q, H0.size ≤ q → A q) : ∀ q, va_A w H.size q → A q := by
  rintro q (⟨k, e, hk⟩ | h)
  · exact (kf_Dat hD).2 k (q, e) hk
  · exact hA q (Nat.le_trans hS.1 h)
end KFRAME
/-- the words that throwing and catching want of the tables, and that a warmed state keeps one by one -/
def kws : List Cond := [.castable "java/lang/IndexOutOfBoundsException" "java/lang/IndexOutOfBoundsException", .castable "java/lang/IllegalArgumentException" "java/lang/IllegalArgumentException", .castable "java/lang/IllegalStateException" "java/lang/IllegalStateException", .castable "java/util/NoSuchElementException" "java/util/NoSuchElementException", .declares (Bundle.initS "java/lang/RuntimeException"), .declares (Bundle.initS "java/lang/Exception"), .declares (Bundle.initS "java/lang/Throwable")]
theorem kws_warm {s U : State} (hW : s.WarmedH U.vm) (h : ∀ w ∈ kws, va_Nw w s) : ∀ w ∈ kws, va_Nw w U := by
  intro w hw
  have h1 := h w hw
  simp only [kws, List.mem_cons, List.not_mem_nil, or_false] at hw
  rcases hw with rfl | rfl | rfl | rfl | rfl | rfl | rfl
  · exact va_Nw.warmC hW h1
  · exact va_Nw.warmC hW h1
  · exact va_Nw.warmC hW h1
  · exact va_Nw.warmC hW h1
  · exact va_Nw.warmD hW h1
  · exact va_Nw.warmD hW h1
  · exact va_Nw.warmD hW h1
theorem kws_same {u U : State} (hvm : u.vm = U.vm) (h : ∀ w ∈ kws, va_Nw w u) : ∀ w ∈ kws, va_Nw w U := by
  intro w hw
  have h1 := h w hw
  simp only [kws, List.mem_cons, List.not_mem_nil, or_false] at hw
  rcases hw with rfl | rfl | rfl | rfl | rfl | rfl | rfl <;> exact va_Nw.same rfl hvm h1
/-- the class's texts: entry of its pool, text -/
def kstrs : List (Nat × String) := [(50, "there is no such key"), (61, "a or b is out of range, or the row does not fit"), (69, "there is a row with this key"), (82, "there is no row with this key"), (92, "both keys are the same"), (94, "there is no row with the first key"), (96, "there is a row with the other key"), (111, "alteration or parameter is out of range"), (113, "the phase is not IDLE"), (124, "chunk or lag is out of range"), (126, "lag is out of range"), (128, "the phase is not COPYING"), (140, "most is out of range"), (142, "not COPYING, the mark is not 40, or more notes"), (144, "the phase is not CUT"), (158, "there is no such key or column"), (166, "there is no such column")]
def kexs : List String := ["java/lang/IllegalArgumentException", "java/lang/IllegalStateException", "java/util/NoSuchElementException"]
/-- what throwing and catching want of the heap and of the tables; A: what may be written -/
def KE (A : Nat → Prop) (U : State) (H : Heap) : Prop :=
  vx_Zq Bundle.tN "UNASSIGNED_STACK" Bundle.steD A U H ∧ vx_Zq Bundle.tN "SUPPRESSED_SENTINEL" Bundle.listD A U H ∧ (∀ q ∈ kstrs, ∃ sa, vk_R RX0 q.1 q.2 sa U) ∧ (∀ w ∈ kws, va_Nw w U) ∧ ∀ E ∈ kexs, ∀ F ∈ kexs, E ≠ F → va_Nc E F U
theorem KE.to {A B : Nat → Prop} {s U : State} {H H1 : Heap} (hW : s.WarmedH U.vm) (hk : ∀ a : Nat, a < H.size → ¬ A a → H1[a]? = H[a]?) (hAB : ∀ q, B q → A q) (h : KE A s H) : KE B U H1 := by
  obtain ⟨h1, h2, h3, h4, h5⟩ := h
  refine ⟨((h1.kept hk).narrow hAB).moved hW.alike, ((h2.kept hk).narrow hAB).moved hW.alike, fun q hq => ?_, kws_warm hW h4, fun E hE F hF hn => (h5 E hE F hF hn).moved hW.alike⟩
  obtain ⟨sa, hsa⟩ := h3 q hq
  exact ⟨sa, hsa.warm hW⟩
theorem KE.same {A : Nat → Prop} {u U : State} {H : Heap} (hvm : u.vm = U.vm) (h : KE A u H) : KE A U H := by
  have hal : u.vm.Alike U.vm := by rw [hvm]; exact Vm.Alike.refl U.vm
  obtain ⟨h1, h2, h3, h4, h5⟩ := h
  refine ⟨h1.moved hal, h2.moved hal, fun q hq => ?_, kws_same hvm h4, fun E hE F hF hn => (h5 E hE F hF hn).moved hal⟩
  obtain ⟨sa, hsa⟩ := h3 q hq
  exact ⟨sa, vk_R.same hvm.symm hsa⟩
/-- a body's start: the arguments, the heap's size, the world -/
def KP (D : va_G) (ca : Nat → ClassId) (w : va_W) (As : List Value) (sz : Nat) : Array Value → State → Prop :=
  va_Pc As (fun U => U.heap.size = sz ∧ va_P D vwCl w U.heap ∧ va_K D vwCl (ktys ca) U ∧ va_D (fun _ => True) w)
def KPE (D : va_G) (ca : Nat → ClassId) (w : va_W) (As : List Value) (sz : Nat) : Array Value → State → Prop :=
  va_Pc As (fun U => U.heap.size = sz ∧ va_P D vwCl w U.heap ∧ va_K D vwCl (ktys ca) U ∧ va_D (fun _ => True) w ∧ KE (va_A w sz) U U.heap)
/-- its end -/
def KQ (D : va_G) (w' : va_W) (o : Option Value) (A : Nat → Prop) : Array Value → State → Outcome → State → Prop := fun _ st oc t => oc = .returned o ∧ va_P D vwCl w' t.heap ∧ va_F A st t
/-- its end by a throw: the world is as it was -/
def KX (D : va_G) (w : va_W) (ψ : String → Prop) (A : Nat → Prop) : String → State → State → Prop := fun E st t => ψ E ∧ va_P D vwCl w t.heap ∧ va_F A st t
/-- A CONTRACT: called with As in the world w, y returns o, and leaves the world w' -/
def CM (l : Launch) (y : MethodName) (cd : ByteArray) (ml : Nat) (rt : Option FieldType) (rm : Room) (D : va_G) (ca : Nat → ClassId) (w : va_W) (As : List Value) (o : Option Value) (w' : va_W) : Prop :=
  ∀ sz : Nat, Met l y (.code y cd ml rt :: WL) rm (KP D ca w As sz) (KQ D w' o (va_A w sz)) 0 0 (va_A w sz)
/-- the same where y may throw: it returns only where φ, and throws E only where ψ E -/
def CX (l : Launch) (y : MethodName) (cd : ByteArray) (ml : Nat) (rt : Option FieldType) (rm : Room) (D : va_G) (ca : Nat → ClassId) (w : va_W) (As : List Value) (φ : Prop) (o : Option Value) (w' : va_W) (ψ : String → Prop) : Prop :=
  ∀ sz : Nat, vx_Met l y (.code y cd ml rt :: WL) rm (KPE D ca w As sz) (fun a st oc t => φ ∧ KQ D w' o (va_A w sz) a st oc t) (KX D w ψ (va_A w sz)) 1 6 (va_A w sz)
/-- a method of the law's, with a table of handlers: it returns -/
def CH (l : Launch) (y : MethodName) (cd : ByteArray) (ml : Nat) (rt : Option FieldType) (hh : List (Nat × Nat × Nat × Nat)) (rm : Room) (D : va_G) (ca : Nat → ClassId) (w : va_W) (As : List Value) (o : Option Value) (w' : va_W) : Prop :=
  ∀ sz : Nat, Met l y (.codeWith y cd ml rt hh :: WL) rm (KPE D ca w As sz) (KQ D w' o (va_A w sz)) 1 6 (va_A w sz)
theorem KP.blind {D : va_G} {ca : Nat → ClassId} {w : va_W} {As : List Value} {sz : Nat} : FrameBlind (KP D ca w As sz) := fun a U g mk q => by
  obtain ⟨q0, q1, qP, qK, qD⟩ := q
  exact ⟨q0, q1, qP, va_K.moved (u := U) (U := U.calling g mk a) (Vm.Alike.refl U.vm) qK, qD⟩
theorem KPE.blind {D : va_G} {ca : Nat → ClassId} {w : va_W} {As : List Value} {sz : Nat} : FrameBlind (KPE D ca w As sz) := fun a U g mk q => by
  obtain ⟨q0, q1, qP, qK, qD, qE⟩ := q
  exact ⟨q0, q1, qP, va_K.moved (u := U) (U := U.calling g mk a) (Vm.Alike.refl U.vm) qK, qD, KE.same (u := U) (U := U.calling g mk a) rfl qE⟩
section KBODY
variable {l : Launch} {y : MethodName} {cd : ByteArray} {ml : Nat} {rt : Option FieldType} {rm : Room} {D : va_G} {ca : Nat → ClassId} {w w' : va_W} {As : List Value} {o : Option Value} {φ : Prop} {ψ : String → Prop} {hh : List (Nat × Nat × Nat × Nat)}
theorem CM.of (hy : plainName y.cls = true) (hn : (lg_sl As).length ≤ ml)
    (body : ∀ (p : Program) (e : Env) (s : State) (m : MethodId) (below : List Frame) (meth : Method) (c : Code) (A : Nat → Prop) (ls : Array Slot), KC p c cd s As.toArray m y.cls D ca → c.maxLocals = ml → meth.sig.returnType = rt → meth.locks = false → KI D A w s.heap s.heap [] → lv_has ls ml (lv_args 0 As) →
      W p l e rm s m As.toArray below meth c s.heap [] 0 0 (MQ below (KQ D w' o A) As.toArray s 0 0 A) (F0 m 0 ls [])) : CM l y cd ml rt rm D ca w As o w' := by
  intro sz
  refine Met.ofW (cc := cd) (maxL := ml) (ret := rt) hy rfl ?_
  intro p e s m args below meth c s₁ B hml hv
  obtain ⟨rfl, hsz, hP, hK, hD0⟩ := hv
  have hts := atoms_spec (ws := .code y cd ml rt :: WL) B.pre
  have hown : s.vm.findClass y.cls = some m.cls := findClass_of_methodNamed B.named
  subst hsz
  have hD := hD0.self (sz := s.heap.size)
  have hl := lv_entry As (n := ml) hn
  rw [lg_entry_eq]
  exact body p e s m below meth c _ _ ⟨B.exec, B.bytes, hown, fun w hw => hts w (List.mem_cons_of_mem _ hw), hK⟩ hml B.returns B.notSynchronized ⟨hP, hD, va_S.rf, fun q h => Or.inr h⟩ hl
theorem CX.of (hy : plainName y.cls = true) (hn : (lg_sl As).length ≤ ml)
    (body : ∀ (p : Program) (e : Env) (s : State) (m : MethodId) (below : List Frame) (meth : Method) (c : Code) (A : Nat → Prop) (ls : Array Slot), KC p c cd s As.toArray m y.cls D ca → c.maxLocals = ml → meth.sig.returnType = rt → meth.locks = false → (∀ x ∈ c.exceptionTable.toList, False) → KE A s s.heap → KI D A w s.heap s.heap [] → lv_has ls ml (lv_args 0 As) →
      W p l e rm s m As.toArray below meth c s.heap [] 0 0 (vx_MQ below (fun a st oc t => φ ∧ KQ D w' o A a st oc t) (KX D w ψ A) As.toArray s 1 6 A) (F0 m 0 ls [])) : CX l y cd ml rt rm D ca w As φ o w' ψ := by
  intro sz
  refine vx_ofW (cc := cd) (maxL := ml) (ret := rt) hy rfl ?_
  intro p e s m args below meth c s₁ B hml htab hv
  obtain ⟨rfl, hsz, hP, hK, hD0, hE⟩ := hv
  have hts := atoms_spec (ws := .code y cd ml rt :: WL) B.pre
  have hown : s.vm.findClass y.cls = some m.cls := findClass_of_methodNamed B.named
  subst hsz
  have hD := hD0.self (sz := s.heap.size)
  have hl := lv_entry As (n := ml) hn
  rw [lg_entry_eq]
  exact body p e s m below meth c _ _ ⟨B.exec, B.bytes, hown, fun w hw => hts w (List.mem_cons_of_mem _ hw), hK⟩ hml B.returns B.notSynchronized htab hE ⟨hP, hD, va_S.rf, fun q h => Or.inr h⟩ hl
theorem CH.of (hy : plainName y.cls = true) (hn : (lg_sl As).length ≤ ml)
    (body : ∀ (p : Program) (e : Env) (s : State) (m : MethodId) (below : List Frame) (meth : Method) (c : Code) (A : Nat → Prop) (ls : Array Slot), KC p c cd s As.toArray m y.cls D ca → c.maxLocals = ml → meth.sig.returnType = rt → meth.locks = false → c.exceptionTable.toList = tableOf hh → KE A s s.heap → KI D A w s.heap s.heap [] → lv_has ls ml (lv_args 0 As) →
      W p l e rm s m As.toArray below meth c s.heap [] 0 0 (MQ below (KQ D w' o A) As.toArray s 1 6 A) (F0 m 0 ls [])) : CH l y cd ml rt hh rm D ca w As o w' := by
  intro sz
  refine MetFree.of_bodyS (code := cd) (maxLocals := ml) (ret := rt) hy ?_ ?_
  · intro args s m h hn
    obtain ⟨m9, meth, c, hn9, h1, h2, h3, h4, -, h5, h6, -⟩ := Cond.codeWith_spec (atoms_spec (ws := .codeWith y cd ml rt hh :: WL) h _ List.mem_cons_self)
    cases hn.symm.trans hn9
    exact ⟨meth, c, h1, h2, h3, h4, h5, h6⟩
  · intro p e s m args below meth c s₁ B hml hv _
    have hh0 : s₁.heap = s.heap := by rw [B.state]; rfl
    obtain ⟨rfl, hsz, hP, hK, hD0, hE⟩ := hv
    have hts := atoms_spec (ws := .codeWith y cd ml rt hh :: WL) B.pre
    have htab := vx_table (x := y) B (hts _ List.mem_cons_self)
    have hown : s.vm.findClass y.cls = some m.cls := findClass_of_methodNamed B.named
    subst hsz
    have hD := hD0.self (sz := s.heap.size)
    have hl := lv_entry As (n := ml) hn
    have k := body p e s m below meth c _ _ ⟨B.exec, B.bytes, hown, fun w hw => hts w (List.mem_cons_of_mem _ hw), hK⟩ hml B.returns B.notSynchronized htab hE ⟨hP, hD, va_S.rf, fun q h => Or.inr h⟩ hl
    rw [← lg_entry_eq] at k
    obtain ⟨t, a1, o, b1, b2, b3⟩ := k s₁ hh0 (Stand.of_body B)
    exact ⟨t, o, a1, b1, b2, ⟨b3.1, b3.2⟩⟩
end KBODY

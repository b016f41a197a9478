/-! MINE: the law's worlds (the class's cells, the law's two arrays, what else there is), a row an access, a row a call. -/
def kSt (n : Nat) (v v' : XS) : XS := if n = 0 then v' else v
def lt (oa cb : Nat) (ca : Nat → ClassId) (o c : Nat → Int32) (tl : va_W) : va_W := (oa, .inl (ca 0, 40, .inl o)) :: (cb, .inl (ca 0, 7, .inl c)) :: tl
def lw (ad : Nat → Nat) (oa cb : Nat) (ca : Nat → ClassId) (v : XS) (o c : Nat → Int32) (tl : va_W) : va_W := xw ad ca v ++ lt oa cb ca o c tl
def hw (sa : Nat) (ca : Nat → ClassId) (h : Nat → Int32) : va_W := [(sa, .inl (ca 0, 6, .inl h))]
/-- as CM, with an end that is one of many -/
def CG (l : Launch) (y : MethodName) (cd : ByteArray) (ml : Nat) (rt : Option FieldType) (rm : Room) (D : va_G) (ca : Nat → ClassId) (w : va_W) (As : List Value) (o : Option Value) (Φ : va_W → Prop) (mc ms : Nat) : Prop :=
  ∀ sz : Nat, Met l y (.code y cd ml rt :: WL) rm (KPE D ca w As sz) (fun _ st oc t => oc = .returned o ∧ (∃ w', Φ w' ∧ va_P D vwCl w' t.heap) ∧ va_F (va_A w sz) st t) mc ms (va_A w sz)
theorem CG.of {l : Launch} {y : MethodName} {cd : ByteArray} {ml : Nat} {rt : Option FieldType} {rm : Room} {D : va_G} {ca : Nat → ClassId} {w : va_W} {As : List Value} {o : Option Value} {Φ : va_W → Prop} {mc ms : Nat} (hy : plainName y.cls = true) (hn : (lg_sl As).length ≤ ml)
    (body : ∀ (p : Program) (e : Env) (s : State) (m : MethodId) (below : List Frame) (meth : Method) (c : Code) (A : Nat → Prop) (ls : Array Slot), KC p c cd s As.toArray m y.cls D ca → c.maxLocals = ml → meth.sig.returnType = rt → meth.locks = false → KE A s s.heap → KI D A w s.heap s.heap [] → lv_has ls ml (lv_args 0 As) →
      W p l e rm s m As.toArray below meth c s.heap [] 0 0 (MQ below (fun _ st oc t => oc = .returned o ∧ (∃ w', Φ w' ∧ va_P D vwCl w' t.heap) ∧ va_F A st t) As.toArray s mc ms A) (F0 m 0 ls [])) : CG l y cd ml rt rm D ca w As o Φ mc ms := by
  intro sz
  refine Met.ofW (cc := cd) (maxL := ml) (ret := rt) hy rfl ?_
  intro p e s m args below meth c s₁ B hml hv
  obtain ⟨rfl, hsz, hP, hK, hD0, hE⟩ := hv
  have hts := atoms_spec (ws := .code y cd ml rt :: WL) B.pre
  have hown : s.vm.findClass y.cls = some m.cls := findClass_of_methodNamed B.named
  subst hsz
  have hD := hD0.self (sz := s.heap.size)
  have hl := lv_entry As (n := ml) hn
  rw [lg_entry_eq]
  exact body p e s m below meth c _ _ ⟨B.exec, B.bytes, hown, fun w hw => hts w (List.mem_cons_of_mem _ hw), hK⟩ hml B.returns B.notSynchronized hE ⟨hP, hD, va_S.rf, fun q h => Or.inr h⟩ hl
section LROWS
variable {p : Program} {l : Launch} {e : Env} {R : Room} {s : State} {m : MethodId} {args : Array Value} {below : List Frame} {meth : Method} {c0 : Code} {H : Heap} {locs : List Loc} {cells slots : Nat} {Q : State → Prop}
variable {cc : ByteArray} {pc : Nat} {ls : Array Slot} {rest : List Value} {D : va_G} {ca : Nat → ClassId} {A : Nat → Prop} {ad : Nat → Nat} {own : String} {oa cb sa : Nat} {v : XS} {o c h : Nat → Int32} {tl : va_W} {a0 a1 a2 a3 a4 a5 a6 : Int32}
theorem lr_o (cx : KC p c0 cc s args m own D ca) (hI : KI D A (lw ad oa cb ca v o c tl) s.heap H locs) {i : Int32} (hin : vp_in i 40) (hdg : decode cc pc = .ok (.iaload, 1)) (k : W p l e R s m args below meth c0 H locs cells slots Q (F0 m (pc + 1) ls (.int (o i.toNatClampNeg) :: rest))) : W p l e R s m args below meth c0 H locs cells slots Q (F0 m pc ls (.int i :: .ref oa :: rest)) := va_iald cx.1 cx.2.1 cx.2.2.2.2 hI.1 9 0 rfl rfl hin hdg k
theorem lr_c (cx : KC p c0 cc s args m own D ca) (hI : KI D A (lw ad oa cb ca v o c tl) s.heap H locs) {i : Int32} (hin : vp_in i 7) (hdg : decode cc pc = .ok (.iaload, 1)) (k : W p l e R s m args below meth c0 H locs cells slots Q (F0 m (pc + 1) ls (.int (c i.toNatClampNeg) :: rest))) : W p l e R s m args below meth c0 H locs cells slots Q (F0 m pc ls (.int i :: .ref cb :: rest)) := va_iald cx.1 cx.2.1 cx.2.2.2.2 hI.1 10 0 rfl rfl hin hdg k
theorem lr_h (cx : KC p c0 cc s args m own D ca) (hI : KI D A (lw ad oa cb ca v o c (hw sa ca h)) s.heap H locs) {i : Int32} (hin : vp_in i 6) (hdg : decode cc pc = .ok (.iaload, 1)) (k : W p l e R s m args below meth c0 H locs cells slots Q (F0 m (pc + 1) ls (.int (h i.toNatClampNeg) :: rest))) : W p l e R s m args below meth c0 H locs cells slots Q (F0 m pc ls (.int i :: .ref sa :: rest)) := va_iald cx.1 cx.2.1 cx.2.2.2.2 hI.1 11 0 rfl rfl hin hdg k
theorem ls_o (cx : KC p c0 cc s args m own D ca) (hI : KI D A (lw ad oa cb ca v o c tl) s.heap H locs) {i y : Int32} (hin : vp_in i 40) (hdg : decode cc pc = .ok (.iastore, 1)) (k : ∀ (H : Heap) (locs : List Loc), KI D A (lw ad oa cb ca v (upd o i.toNatClampNeg y) c tl) s.heap H locs → W p l e R s m args below meth c0 H locs cells slots Q (F0 m (pc + 1) ls rest)) : W p l e R s m args below meth c0 H locs cells slots Q (F0 m pc ls (.int y :: .int i :: .ref oa :: rest)) := va_iast cx.1 cx.2.1 cx.2.2.2.2 hI.1 hI.2.1 hI.2.2.1 9 0 rfl rfl hin hdg (fun H1 locs1 hP hD hS => k H1 locs1 ⟨hP, hD, hS, hI.2.2.2⟩)
theorem ls_c (cx : KC p c0 cc s args m own D ca) (hI : KI D A (lw ad oa cb ca v o c tl) s.heap H locs) {i y : Int32} (hin : vp_in i 7) (hdg : decode cc pc = .ok (.iastore, 1)) (k : ∀ (H : Heap) (locs : List Loc), KI D A (lw ad oa cb ca v o (upd c i.toNatClampNeg y) tl) s.heap H locs → W p l e R s m args below meth c0 H locs cells slots Q (F0 m (pc + 1) ls rest)) : W p l e R s m args below meth c0 H locs cells slots Q (F0 m pc ls (.int y :: .int i :: .ref cb :: rest)) := va_iast cx.1 cx.2.1 cx.2.2.2.2 hI.1 hI.2.1 hI.2.2.1 10 0 rfl rfl hin hdg (fun H1 locs1 hP hD hS => k H1 locs1 ⟨hP, hD, hS, hI.2.2.2⟩)
theorem ls_h (cx : KC p c0 cc s args m own D ca) (hI : KI D A (lw ad oa cb ca v o c (hw sa ca h)) s.heap H locs) {i y : Int32} (hin : vp_in i 6) (hdg : decode cc pc = .ok (.iastore, 1)) (k : ∀ (H : Heap) (locs : List Loc), KI D A (lw ad oa cb ca v o c (hw sa ca (upd h i.toNatClampNeg y))) s.heap H locs → W p l e R s m args below meth c0 H locs cells slots Q (F0 m (pc + 1) ls rest)) : W p l e R s m args below meth c0 H locs cells slots Q (F0 m pc ls (.int y :: .int i :: .ref sa :: rest)) := va_iast cx.1 cx.2.1 cx.2.2.2.2 hI.1 hI.2.1 hI.2.2.1 11 0 rfl rfl hin hdg (fun H1 locs1 hP hD hS => k H1 locs1 ⟨hP, hD, hS, hI.2.2.2⟩)
theorem ls_c0 (cx : KC p c0 cc s args m own D ca) (hI : KI D A (lw ad oa cb ca v o (lK a0 a1 a2 a3 a4 a5 a6) tl) s.heap H locs) {y : Int32} (hdg : decode cc pc = .ok (.iastore, 1)) (k : ∀ (H : Heap) (locs : List Loc), KI D A (lw ad oa cb ca v o (lK y a1 a2 a3 a4 a5 a6) tl) s.heap H locs → W p l e R s m args below meth c0 H locs cells slots Q (F0 m (pc + 1) ls rest)) : W p l e R s m args below meth c0 H locs cells slots Q (F0 m pc ls (.int y :: .int 0 :: .ref cb :: rest)) := ls_c cx hI (vp_in_nI (n := 0) (by decide) (by decide)) hdg (fun H1 locs1 hJ => k H1 locs1 (by have e9 : upd (lK a0 a1 a2 a3 a4 a5 a6) ((0 : Int32).toNatClampNeg) y = lK y a1 a2 a3 a4 a5 a6 := lK_u0 a0 a1 a2 a3 a4 a5 a6 y; rw [e9] at hJ; exact hJ))
theorem ls_c1 (cx : KC p c0 cc s args m own D ca) (hI : KI D A (lw ad oa cb ca v o (lK a0 a1 a2 a3 a4 a5 a6) tl) s.heap H locs) {y : Int32} (hdg : decode cc pc = .ok (.iastore, 1)) (k : ∀ (H : Heap) (locs : List Loc), KI D A (lw ad oa cb ca v o (lK a0 y a2 a3 a4 a5 a6) tl) s.heap H locs → W p l e R s m args below meth c0 H locs cells slots Q (F0 m (pc + 1) ls rest)) : W p l e R s m args below meth c0 H locs cells slots Q (F0 m pc ls (.int y :: .int 1 :: .ref cb :: rest)) := ls_c cx hI (vp_in_nI (n := 1) (by decide) (by decide)) hdg (fun H1 locs1 hJ => k H1 locs1 (by have e9 : upd (lK a0 a1 a2 a3 a4 a5 a6) ((1 : Int32).toNatClampNeg) y = lK a0 y a2 a3 a4 a5 a6 := lK_u1 a0 a1 a2 a3 a4 a5 a6 y; rw [e9] at hJ; exact hJ))
theorem ls_c2 (cx : KC p c0 cc s args m own D ca) (hI : KI D A (lw ad oa cb ca v o (lK a0 a1 a2 a3 a4 a5 a6) tl) s.heap H locs) {y : Int32} (hdg : decode cc pc = .ok (.iastore, 1)) (k : ∀ (H : Heap) (locs : List Loc), KI D A (lw ad oa cb ca v o (lK a0 a1 y a3 a4 a5 a6) tl) s.heap H locs → W p l e R s m args below meth c0 H locs cells slots Q (F0 m (pc + 1) ls rest)) : W p l e R s m args below meth c0 H locs cells slots Q (F0 m pc ls (.int y :: .int 2 :: .ref cb :: rest)) := ls_c cx hI (vp_in_nI (n := 2) (by decide) (by decide)) hdg (fun H1 locs1 hJ => k H1 locs1 (by have e9 : upd (lK a0 a1 a2 a3 a4 a5 a6) ((2 : Int32).toNatClampNeg) y = lK a0 a1 y a3 a4 a5 a6 := lK_u2 a0 a1 a2 a3 a4 a5 a6 y; rw [e9] at hJ; exact hJ))
theorem ls_c3 (cx : KC p c0 cc s args m own D ca) (hI : KI D A (lw ad oa cb ca v o (lK a0 a1 a2 a3 a4 a5 a6) tl) s.heap H locs) {y : Int32} (hdg : decode cc pc = .ok (.iastore, 1)) (k : ∀ (H : Heap) (locs : List Loc), KI D A (lw ad oa cb ca v o (lK a0 a1 a2 y a4 a5 a6) tl) s.heap H locs → W p l e R s m args below meth c0 H locs cells slots Q (F0 m (pc + 1) ls rest)) : W p l e R s m args below meth c0 H locs cells slots Q (F0 m pc ls (.int y :: .int 3 :: .ref cb :: rest)) := ls_c cx hI (vp_in_nI (n := 3) (by decide) (by decide)) hdg (fun H1 locs1 hJ => k H1 locs1 (by have e9 : upd (lK a0 a1 a2 a3 a4 a5 a6) ((3 : Int32).toNatClampNeg) y = lK a0 a1 a2 y a4 a5 a6 := lK_u3 a0 a1 a2 a3 a4 a5 a6 y; rw [e9] at hJ; exact hJ))
theorem ls_c4 (cx : KC p c0 cc s args m own D ca) (hI : KI D A (lw ad oa cb ca v o (lK a0 a1 a2 a3 a4 a5 a6) tl) s.heap H locs) {y : Int32} (hdg : decode cc pc = .ok (.iastore, 1)) (k : ∀ (H : Heap) (locs : List Loc), KI D A (lw ad oa cb ca v o (lK a0 a1 a2 a3 y a5 a6) tl) s.heap H locs → W p l e R s m args below meth c0 H locs cells slots Q (F0 m (pc + 1) ls rest)) : W p l e R s m args below meth c0 H locs cells slots Q (F0 m pc ls (.int y :: .int 4 :: .ref cb :: rest)) := ls_c cx hI (vp_in_nI (n := 4) (by decide) (by decide)) hdg (fun H1 locs1 hJ => k H1 locs1 (by have e9 : upd (lK a0 a1 a2 a3 a4 a5 a6) ((4 : Int32).toNatClampNeg) y = lK a0 a1 a2 a3 y a5 a6 := lK_u4 a0 a1 a2 a3 a4 a5 a6 y; rw [e9] at hJ; exact hJ))
theorem ls_c5 (cx : KC p c0 cc s args m own D ca) (hI : KI D A (lw ad oa cb ca v o (lK a0 a1 a2 a3 a4 a5 a6) tl) s.heap H locs) {y : Int32} (hdg : decode cc pc = .ok (.iastore, 1)) (k : ∀ (H : Heap) (locs : List Loc), KI D A (lw ad oa cb ca v o (lK a0 a1 a2 a3 a4 y a6) tl) s.heap H locs → W p l e R s m args below meth c0 H locs cells slots Q (F0 m (pc + 1) ls rest)) : W p l e R s m args below meth c0 H locs cells slots Q (F0 m pc ls (.int y :: .int 5 :: .ref cb :: rest)) := ls_c cx hI (vp_in_nI (n := 5) (by decide) (by decide)) hdg (fun H1 locs1 hJ => k H1 locs1 (by have e9 : upd (lK a0 a1 a2 a3 a4 a5 a6) ((5 : Int32).toNatClampNeg) y = lK a0 a1 a2 a3 a4 y a6 := lK_u5 a0 a1 a2 a3 a4 a5 a6 y; rw [e9] at hJ; exact hJ))
theorem ls_c6 (cx : KC p c0 cc s args m own D ca) (hI : KI D A (lw ad oa cb ca v o (lK a0 a1 a2 a3 a4 a5 a6) tl) s.heap H locs) {y : Int32} (hdg : decode cc pc = .ok (.iastore, 1)) (k : ∀ (H : Heap) (locs : List Loc), KI D A (lw ad oa cb ca v o (lK a0 a1 a2 a3 a4 a5 y) tl) s.heap H locs → W p l e R s m args below meth c0 H locs cells slots Q (F0 m (pc + 1) ls rest)) : W p l e R s m args below meth c0 H locs cells slots Q (F0 m pc ls (.int y :: .int 6 :: .ref cb :: rest)) := ls_c cx hI (vp_in_nI (n := 6) (by decide) (by decide)) hdg (fun H1 locs1 hJ => k H1 locs1 (by have e9 : upd (lK a0 a1 a2 a3 a4 a5 a6) ((6 : Int32).toNatClampNeg) y = lK a0 a1 a2 a3 a4 a5 y := lK_u6 a0 a1 a2 a3 a4 a5 a6 y; rw [e9] at hJ; exact hJ))
variable {y : MethodName} {bytes : ByteArray} {maxL index n mc ms : Nat} {ret : Option FieldType} {rm : Room} {As : List Value} {st0 : List Value} {r : Int32} {ov : Option Value} {φ : Prop} {ψ : String → Prop} {w w' pre post W0 W1 : va_W} {Φ : va_W → Prop}
/-- the class's method, that answers -/
theorem lc_i (n : Nat) {v v' : XS} (cx : KC p c0 cc s args m own D ca) (hls : ls.size = c0.maxLocals) (hM : CM l y bytes maxL ret rm D ca (xw ad ca v) (.ref (ad 0) :: As) (some (.int r)) (xw ad ca v')) (hI : KI D A (lw ad oa cb ca v o c tl) s.heap H locs)
    (h0 : Cond.code y bytes maxL ret ∈ WL) (h1 : Cond.methodLink own index y ∈ WL) (h2 : Cond.instanceMethod y ∈ WL) (h3 : Cond.selects RX0 y y ∈ WL)
    (hd : y.cls = RX0 ∧ (parseMethodDescriptor y.desc).map (fun d => d.parameters.length) = some n) (hn : As.length = n) (hrm : rm.cells = 0 ∧ rm.slots = 0) (hR : rm.frames + 1 ≤ R.frames ∧ 8 + (maxL + 11) + rm.locals ≤ R.locals) (hW : (rest.map fun v => v.category).sum ≤ 8) (hdg : decode cc pc = .ok (.invokevirtual index, 3)) (hf : cells ≤ R.cells ∧ slots ≤ R.slots)
    (hst : st0 = As.reverse ++ .ref (ad 0) :: rest) (kk : ∀ H1 locs1, KI D A (lw ad oa cb ca v' o c tl) s.heap H1 locs1 → W p l e R s m args below meth c0 H1 locs1 cells slots Q (F0 m (pc + 3) ls (.int r :: rest))) : W p l e R s m args below meth c0 H locs cells slots Q (F0 m pc ls st0) :=
  k_callV (C := RX0) (T := TX0) (N := 12) (ci := 0) n [] (lt oa cb ca o c tl) cx hls hM hI rfl rfl xw_ad rfl rfl h0 h1 h2 h3 wk_1 ⟨hd.1, by rw [hd.1]; decide, by rw [hd.1]; decide, hd.2⟩ hn hrm hR hW hdg hf hst kk
theorem lc_v (n : Nat) {v v' : XS} (cx : KC p c0 cc s args m own D ca) (hls : ls.size = c0.maxLocals) (hM : CM l y bytes maxL ret rm D ca (xw ad ca v) (.ref (ad 0) :: As) none (xw ad ca v')) (hI : KI D A (lw ad oa cb ca v o c tl) s.heap H locs)
    (h0 : Cond.code y bytes maxL ret ∈ WL) (h1 : Cond.methodLink own index y ∈ WL) (h2 : Cond.instanceMethod y ∈ WL) (h3 : Cond.selects RX0 y y ∈ WL)
    (hd : y.cls = RX0 ∧ (parseMethodDescriptor y.desc).map (fun d => d.parameters.length) = some n) (hn : As.length = n) (hrm : rm.cells = 0 ∧ rm.slots = 0) (hR : rm.frames + 1 ≤ R.frames ∧ 8 + (maxL + 11) + rm.locals ≤ R.locals) (hW : (rest.map fun v => v.category).sum ≤ 8) (hdg : decode cc pc = .ok (.invokevirtual index, 3)) (hf : cells ≤ R.cells ∧ slots ≤ R.slots)
    (hst : st0 = As.reverse ++ .ref (ad 0) :: rest) (kk : ∀ H1 locs1, KI D A (lw ad oa cb ca v' o c tl) s.heap H1 locs1 → W p l e R s m args below meth c0 H1 locs1 cells slots Q (F0 m (pc + 3) ls rest)) : W p l e R s m args below meth c0 H locs cells slots Q (F0 m pc ls st0) :=
  k_callV (C := RX0) (T := TX0) (N := 12) (ci := 0) n [] (lt oa cb ca o c tl) cx hls hM hI rfl rfl xw_ad rfl rfl h0 h1 h2 h3 wk_1 ⟨hd.1, by rw [hd.1]; decide, by rw [hd.1]; decide, hd.2⟩ hn hrm hR hW hdg hf hst kk
/-- the law's method over the whole world -/
theorem lc_w (n : Nat) (cx : KC p c0 cc s args m own D ca) (hls : ls.size = c0.maxLocals) (hM : CM l y bytes maxL ret rm D ca (lw ad oa cb ca v o c []) As (some (.int r)) (lw ad oa cb ca v o c [])) (hI : KI D A (lw ad oa cb ca v o c tl) s.heap H locs)
    (h0 : Cond.code y bytes maxL ret ∈ WL) (h1 : Cond.methodLink own index y ∈ WL) (h2 : Cond.static y ∈ WL) (h4 : Cond.initialized y.cls ∈ WL)
    (hd : y.cls ≠ "java/lang/invoke/MethodHandle" ∧ y.cls ≠ "java/lang/invoke/VarHandle" ∧ (parseMethodDescriptor y.desc).map (fun d => d.parameters.length) = some n) (hn : As.length = n) (hrm : rm.cells = 0 ∧ rm.slots = 0) (hR : rm.frames + 1 ≤ R.frames ∧ 8 + (maxL + 11) + rm.locals ≤ R.locals) (hW : (rest.map fun v => v.category).sum ≤ 8) (hdg : decode cc pc = .ok (.invokestatic index, 3)) (hf : cells ≤ R.cells ∧ slots ≤ R.slots)
    (hst : st0 = As.reverse ++ rest) (kk : ∀ H1 locs1, KI D A (lw ad oa cb ca v o c tl) s.heap H1 locs1 → W p l e R s m args below meth c0 H1 locs1 cells slots Q (F0 m (pc + 3) ls (.int r :: rest))) : W p l e R s m args below meth c0 H locs cells slots Q (F0 m pc ls st0) :=
  k_callS n [] tl cx hls hM hI rfl rfl rfl h0 h1 h2 h4 hd hn hrm hR hW hdg hf hst kk
/-- the law's method over its second array alone -/
theorem lc_c (n : Nat) (cx : KC p c0 cc s args m own D ca) (hls : ls.size = c0.maxLocals) (hM : CM l y bytes maxL ret rm D ca [(cb, .inl (ca 0, 7, .inl c))] As (some (.int r)) [(cb, .inl (ca 0, 7, .inl c))]) (hI : KI D A (lw ad oa cb ca v o c tl) s.heap H locs)
    (h0 : Cond.code y bytes maxL ret ∈ WL) (h1 : Cond.methodLink own index y ∈ WL) (h2 : Cond.static y ∈ WL) (h4 : Cond.initialized y.cls ∈ WL)
    (hd : y.cls ≠ "java/lang/invoke/MethodHandle" ∧ y.cls ≠ "java/lang/invoke/VarHandle" ∧ (parseMethodDescriptor y.desc).map (fun d => d.parameters.length) = some n) (hn : As.length = n) (hrm : rm.cells = 0 ∧ rm.slots = 0) (hR : rm.frames + 1 ≤ R.frames ∧ 8 + (maxL + 11) + rm.locals ≤ R.locals) (hW : (rest.map fun v => v.category).sum ≤ 8) (hdg : decode cc pc = .ok (.invokestatic index, 3)) (hf : cells ≤ R.cells ∧ slots ≤ R.slots)
    (hst : st0 = As.reverse ++ rest) (kk : ∀ H1 locs1, KI D A (lw ad oa cb ca v o c tl) s.heap H1 locs1 → W p l e R s m args below meth c0 H1 locs1 cells slots Q (F0 m (pc + 3) ls (.int r :: rest))) : W p l e R s m args below meth c0 H locs cells slots Q (F0 m pc ls st0) :=
  k_callS n (xw ad ca v ++ [(oa, .inl (ca 0, 40, .inl o))]) tl cx hls hM hI rfl rfl rfl h0 h1 h2 h4 hd hn hrm hR hW hdg hf hst kk
/-- asking: what is thrown is caught there -/
theorem lc_h (n : Nat) {v v' : XS} {hh : List (Nat × Nat × Nat × Nat)} (cx : KC p c0 cc s args m own D ca) (hE : KE A s s.heap) (hls : ls.size = c0.maxLocals) (hM : CH l y bytes maxL ret hh rm D ca (xw ad ca v) As (some (.int r)) (xw ad ca v')) (hI : KI D A (lw ad oa cb ca v o c tl) s.heap H locs)
    (h0 : Cond.codeWith y bytes maxL ret hh ∈ WL) (h1 : Cond.methodLink own index y ∈ WL) (h2 : Cond.static y ∈ WL) (h4 : Cond.initialized y.cls ∈ WL)
    (hd : y.cls ≠ "java/lang/invoke/MethodHandle" ∧ y.cls ≠ "java/lang/invoke/VarHandle" ∧ (parseMethodDescriptor y.desc).map (fun d => d.parameters.length) = some n) (hn : As.length = n) (hrm : rm.cells = 1 ∧ rm.slots = 6) (hR : rm.frames + 1 ≤ R.frames ∧ 8 + (maxL + 11) + rm.locals ≤ R.locals) (hW : (rest.map fun v => v.category).sum ≤ 8) (hdg : decode cc pc = .ok (.invokestatic index, 3)) (hf : cells + 1 ≤ R.cells ∧ slots + 6 ≤ R.slots)
    (hst : st0 = As.reverse ++ rest) (kk : ∀ H1 locs1, KI D A (lw ad oa cb ca v' o c tl) s.heap H1 locs1 → W p l e R s m args below meth c0 H1 locs1 (cells + 1) (slots + 6) Q (F0 m (pc + 3) ls (.int r :: rest))) : W p l e R s m args below meth c0 H locs cells slots Q (F0 m pc ls st0) :=
  k_callH n [] (lt oa cb ca o c tl) cx hE hls hM hI rfl rfl xw_ad h0 h1 h2 h4 hd hn hrm hR hW hdg hf hst kk
/-- a static method that may throw: kx is where it throws -/
theorem k_callXS (n : Nat) (cx : KC p c0 cc s args m own D ca) (hE : KE A s s.heap) (hls : ls.size = c0.maxLocals) (hM : CX l y bytes maxL ret rm D ca w As φ ov w' ψ)
    (hI : KI D A w s.heap H locs) (had : w'.map Prod.fst = w.map Prod.fst)
    (h0 : Cond.code y bytes maxL ret ∈ WL) (h1 : Cond.methodLink own index y ∈ WL) (h2 : Cond.static y ∈ WL) (h4 : Cond.initialized y.cls ∈ WL)
    (hd : y.cls ≠ "java/lang/invoke/MethodHandle" ∧ y.cls ≠ "java/lang/invoke/VarHandle" ∧ (parseMethodDescriptor y.desc).map (fun d => d.parameters.length) = some n) (hn : As.length = n)
    (hrm : rm.cells = 1 ∧ rm.slots = 6) (hR : rm.frames + 1 ≤ R.frames ∧ 8 + (maxL + 11) + rm.locals ≤ R.locals) (hW : (rest.map fun v => v.category).sum ≤ 8) (hdg : decode cc pc = .ok (.invokestatic index, 3)) (hf : cells + 1 ≤ R.cells ∧ slots + 6 ≤ R.slots)
    (hst : st0 = As.reverse ++ rest)
    (kx : ∀ E ce q9 H1 locs1, ψ E → KI D A w s.heap H1 locs1 → H1[q9]? = some ce → ce.vm = .none → s.vm.findClass E = some ce.cls → vx_W p l e R s m args below meth c0 H1 locs1 (cells + 1) (slots + 6) Q (F0 m pc ls rest) q9)
    (kk : φ → ∀ H1 locs1, KI D A w' s.heap H1 locs1 → W p l e R s m args below meth c0 H1 locs1 (cells + 1) (slots + 6) Q (F0 m (pc + 3) ls (ov.toList ++ rest))) : W p l e R s m args below meth c0 H locs cells slots Q (F0 m pc ls st0) := by
  have e9 : w = [] ++ (w ++ []) := (List.append_nil w).symm
  have e8 : w' = [] ++ (w' ++ []) := (List.append_nil w').symm
  obtain ⟨hP, hD, hS, hA⟩ := hI
  rw [e9] at hP hD
  have hF := kf_free hD hS hA
  have hr := vx_runS (e := e) (below := below) (meth := meth) (locs := locs) (As := As) (rest := rest) ⟨cx.1, cx.2.1, rfl, cx.2.2.1, cx.2.2.2.1⟩ (hM H.size) (va_cwS n cx.2.2.2.1 (wk_S h0 h1 h2 h4) rfl hrm.1 hrm.2 hd hR) (k_preSE cx.2.2.2.2 (kf_at hP) (kf_Dat hD) hE hS hF) (g := F0 m pc ls st0) rfl hn hls hst (lv_room hW) hdg hf
  intro T hT X
  rcases hr T hT X with ⟨v, st₀, t, T', L, h0, X', hL, e1, e2, ⟨hφ, hv, hP1, hz, hk⟩, st⟩ | ⟨q, st₀, t, T', L, E, ce, h0, X', hL, e1, e2, ⟨hψ, hP1, hz, hk⟩, hce, hcv, hcl, st⟩
  · have hv : v = ov := by injection hv
    subst hv
    rw [h0] at hz hk
    have hk1 : ∀ q : Nat, q < H.size → ¬ va_A w H.size q → T'.heap[q]? = H[q]? := fun q h1 h2 => by rw [e1]; exact hk q h1 h2
    have hz1 : H.size ≤ T'.heap.size := by rw [e1]; exact hz
    obtain ⟨t2, a1, b1⟩ := kk hφ T'.heap (locs ++ L) ⟨by rw [e8]; exact kf_P hP hD hk1 (by rw [e1]; exact hP1), by rw [e8]; exact kf_Dw had hD, ⟨Nat.le_trans hS.1 hz1, fun q h1 h2 => by rw [hk1 q (Nat.lt_of_lt_of_le h1 hS.1) (fun z => h2 (hF q z))]; exact hS.2.1 q h1 h2, fun q hq => by
        rcases List.mem_append.mp hq with h | h
        · exact hS.2.2 q h
        · exact hF _ (hL q h)⟩, hA⟩ T' rfl X'
    exact ⟨t2, st t2 a1, b1⟩
  · rw [h0] at hz hk
    have hk1 : ∀ q : Nat, q < H.size → ¬ va_A w H.size q → T'.heap[q]? = H[q]? := fun q h1 h2 => by rw [e1]; exact hk q h1 h2
    have hz1 : H.size ≤ T'.heap.size := by rw [e1]; exact hz
    obtain ⟨t2, a1, b1⟩ := kx E ce q T'.heap (locs ++ L) hψ ⟨by rw [e9]; exact kf_P hP hD hk1 (by rw [e1]; exact hP1), by rw [e9]; exact hD, ⟨Nat.le_trans hS.1 hz1, fun q h1 h2 => by rw [hk1 q (Nat.lt_of_lt_of_le h1 hS.1) (fun z => h2 (hF q z))]; exact hS.2.1 q h1 h2, fun q hq => by
        rcases List.mem_append.mp hq with h | h
        · exact hS.2.2 q h
        · exact hF _ (hL q h)⟩, hA⟩ (by rw [e1]; exact hce) hcv hcl T' rfl X'
    exact ⟨t2, st.trans a1, b1⟩
/-- what is thrown goes on to the caller -/
theorem kx_out {E : String} {ce : Cell} {q : Nat} {Qc : Array Value → State → Outcome → State → Prop} (htab : ∀ x ∈ c0.exceptionTable.toList, False) (hlk : meth.locks = false) (hI : KI D A w s.heap H locs) (hψ : ψ E) (hq : H[q]? = some ce) (hv : ce.vm = .none) (hcl : s.vm.findClass E = some ce.cls) (hc : cells ≤ mc) (hs : slots ≤ ms) : vx_W p l e R s m args below meth c0 H locs cells slots (vx_MQ below Qc (KX D w ψ A) args s mc ms A) (F0 m pc ls rest) q :=
  vx_out (fun x hx => (htab x hx).elim) hlk hq hv hcl (fun t ht _ => ⟨hψ, by rw [ht]; exact hI.1, hI.2.2.1.F ht⟩) hI.2.2.1.2.2 hc hs
/-- a static method with one of many ends -/
theorem k_callG (n : Nat) (pre post : va_W) (cx : KC p c0 cc s args m own D ca) (hE : KE A s s.heap) (hls : ls.size = c0.maxLocals) (hM : CG l y bytes maxL ret rm D ca w As ov Φ mc ms)
    (hI : KI D A W0 s.heap H locs) (e0 : W0 = pre ++ (w ++ post)) (had : ∀ w', Φ w' → w'.map Prod.fst = w.map Prod.fst)
    (h0 : Cond.code y bytes maxL ret ∈ WL) (h1 : Cond.methodLink own index y ∈ WL) (h2 : Cond.static y ∈ WL) (h4 : Cond.initialized y.cls ∈ WL)
    (hd : y.cls ≠ "java/lang/invoke/MethodHandle" ∧ y.cls ≠ "java/lang/invoke/VarHandle" ∧ (parseMethodDescriptor y.desc).map (fun d => d.parameters.length) = some n) (hn : As.length = n)
    (hrm : rm.cells = mc ∧ rm.slots = ms) (hR : rm.frames + 1 ≤ R.frames ∧ 8 + (maxL + 11) + rm.locals ≤ R.locals) (hW : (rest.map fun v => v.category).sum ≤ 8) (hdg : decode cc pc = .ok (.invokestatic index, 3)) (hf : cells + mc ≤ R.cells ∧ slots + ms ≤ R.slots)
    (hst : st0 = As.reverse ++ rest) (kk : ∀ w', Φ w' → ∀ H1 locs1, KI D A (pre ++ (w' ++ post)) s.heap H1 locs1 → W p l e R s m args below meth c0 H1 locs1 (cells + mc) (slots + ms) Q (F0 m (pc + 3) ls (ov.toList ++ rest))) : W p l e R s m args below meth c0 H locs cells slots Q (F0 m pc ls st0) := by
  subst e0
  obtain ⟨hP, hD, hS, hA⟩ := hI
  have hF := kf_free hD hS hA
  have hr := va_runS (e := e) (below := below) (meth := meth) (locs := locs) (As := As) (rest := rest) ⟨cx.1, cx.2.1, rfl, cx.2.2.1, cx.2.2.2.1⟩ (hM H.size) (va_cwS n cx.2.2.2.1 (wk_S h0 h1 h2 h4) rfl hrm.1 hrm.2 hd hR) (k_preSE cx.2.2.2.2 (kf_at hP) (kf_Dat hD) hE hS hF) (g := F0 m pc ls st0) rfl hn hls hst (lv_room hW) hdg hf
  intro T hT X
  obtain ⟨v, st₀, t, T', L, h0, X', hL, e1, e2, ⟨hv, ⟨w', hΦ, hP1⟩, hz, hk⟩, st⟩ := hr T hT X
  have hv : v = ov := by injection hv
  subst hv
  rw [h0] at hz hk
  have hk1 : ∀ q : Nat, q < H.size → ¬ va_A w H.size q → T'.heap[q]? = H[q]? := fun q h1 h2 => by rw [e1]; exact hk q h1 h2
  have hz1 : H.size ≤ T'.heap.size := by rw [e1]; exact hz
  obtain ⟨t2, a1, b1⟩ := kk w' hΦ T'.heap (locs ++ L) ⟨kf_P hP hD hk1 (by rw [e1]; exact hP1), kf_Dw (had w' hΦ) hD, ⟨Nat.le_trans hS.1 hz1, fun q h1 h2 => by rw [hk1 q (Nat.lt_of_lt_of_le h1 hS.1) (fun z => h2 (hF q z))]; exact hS.2.1 q h1 h2, fun q hq => by
      rcases List.mem_append.mp hq with h | h
      · exact hS.2.2 q h
      · exact hF _ (hL q h)⟩, hA⟩ T' rfl X'
  exact ⟨t2, st t2 a1, b1⟩
end LROWS
section LEND
variable {p : Program} {l : Launch} {e : Env} {R : Room} {s : State} {m : MethodId} {args : Array Value} {below : List Frame} {meth : Method} {c0 : Code} {H : Heap} {locs : List Loc} {cells slots mc ms : Nat}
variable {cc : ByteArray} {pc : Nat} {ls : Array Slot} {D : va_G} {ca : Nat → ClassId} {A : Nat → Prop} {own : String} {w1 : va_W} {Φ : va_W → Prop}
theorem ke_g (w2 post : va_W) {v : Int32} (cx : KC p c0 cc s args m own D ca) (hr : meth.sig.returnType = some .boolean) (hlk : meth.locks = false) (hI : KI D A w1 s.heap H locs) (hc : cells ≤ mc) (hs : slots ≤ ms) (hdg : decode cc pc = .ok (.ireturn, 1)) (hn : narrow .boolean (.int v) = .int v) (ew : w1 = w2 ++ post) (hΦ : Φ w2) :
    W p l e R s m args below meth c0 H locs cells slots (MQ below (fun _ st oc t => oc = .returned (some (.int v)) ∧ (∃ w', Φ w' ∧ va_P D vwCl w' t.heap) ∧ va_F A st t) args s mc ms A) (F0 m pc ls [.int v]) := by
  subst ew
  refine W.widen hc hs ?_
  exact W.zret cx.1 cx.2.1 hr hn (fun t ht hW => ⟨rfl, ⟨w2, hΦ, by rw [ht]; exact kf_at (pre := []) hI.1⟩, hI.2.2.1.F ht⟩) hI.2.2.1.2.2 hdg hlk
end LEND
theorem lw_eq {ad : Nat → Nat} {oa cb : Nat} {ca : Nat → ClassId} {v : XS} {o o' c c' : Nat → Int32} (h1 : o = o') (h2 : c = c') : lw ad oa cb ca v o c [] = lw ad oa cb ca v o' c' [] := by rw [h1, h2]
theorem lw_ad {ad : Nat → Nat} {oa cb : Nat} {ca : Nat → ClassId} {v v' : XS} {o o' c c' : Nat → Int32} : (lw ad oa cb ca v' o' c' []).map Prod.fst = (lw ad oa cb ca v o c []).map Prod.fst := rfl
/-- the ends of the law's step: some state that keeps what holds -/
def LW (n : Nat) (ad : Nat → Nat) (oa cb : Nat) (ca : Nat → ClassId) (w : va_W) : Prop := ∃ v, zI n v ∧ w = lw ad oa cb ca v (lO v) (lC v) []
theorem LW.ad {n : Nat} {ad : Nat → Nat} {oa cb : Nat} {ca : Nat → ClassId} {v : XS} {o c : Nat → Int32} {w : va_W} (h : LW n ad oa cb ca w) : w.map Prod.fst = (lw ad oa cb ca v o c []).map Prod.fst := by
  obtain ⟨v', -, rfl⟩ := h
  rfl

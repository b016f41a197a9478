/-! MINE: the constructors. -/
theorem kca_i {D : va_G} {ca : Nat → ClassId} {cA : ClassId} {s : State} (h : va_K D vwCl (ktys ca ++ [(cA, .int)]) s) : cA = ca 0 := by
  have h1 : s.vm.findClass ("[" ++ FieldType.int.toString) = some (ca 0) := (h.2 0 (ca 0, .int) rfl).2
  have h2 : s.vm.findClass ("[" ++ FieldType.int.toString) = some cA := (h.2 3 (cA, .int) rfl).2
  exact Option.some.inj (h2.symm.trans h1)
theorem kca_z {D : va_G} {ca : Nat → ClassId} {cA : ClassId} {s : State} (h : va_K D vwCl (ktys ca ++ [(cA, .boolean)]) s) : cA = ca 1 := by
  have h1 : s.vm.findClass ("[" ++ FieldType.boolean.toString) = some (ca 1) := (h.2 1 (ca 1, .boolean) rfl).2
  have h2 : s.vm.findClass ("[" ++ FieldType.boolean.toString) = some cA := (h.2 3 (cA, .boolean) rfl).2
  exact Option.some.inj (h2.symm.trans h1)
theorem kca_a {D : va_G} {ca : Nat → ClassId} {cA : ClassId} {s : State} (h : va_K D vwCl (ktys ca ++ [(cA, .array .int)]) s) : cA = ca 2 := by
  have h1 : s.vm.findClass ("[" ++ (FieldType.array .int).toString) = some (ca 2) := (h.2 2 (ca 2, .array .int) rfl).2
  have h2 : s.vm.findClass ("[" ++ (FieldType.array .int).toString) = some cA := (h.2 3 (cA, .array .int) rfl).2
  exact Option.some.inj (h2.symm.trans h1)
section KNEW
variable {p : Program} {l : Launch} {e : Env} {R : Room} {s : State} {m : MethodId} {args : Array Value} {below : List Frame} {meth : Method} {c : Code} {H : Heap} {locs : List Loc} {cells slots : Nat} {Q : State → Prop}
variable {cc : ByteArray} {pc : Nat} {ls : Array Slot} {rest : List Value} {D : va_G} {ca : Nat → ClassId} {A : Nat → Prop} {own : String} {w : va_W}
theorem k_newI {n : Int32} (N : Nat) (cx : KC p c cc s args m own D ca) (hI : KI D A w s.heap H locs) (hn : ¬ n < 0) (hN : n.toNatClampNeg = N) (hb : N * componentBytes .int ≤ 536870912) (hf : cells + 1 ≤ R.cells ∧ slots + N ≤ R.slots) (hdg : decode cc pc = .ok (.newarray .int, 2))
    (kk : ∀ q H1, KI D A (w ++ [(q, .inl (ca 0, N, .inl (fun _ => 0)))]) s.heap H1 locs → W p l e R s m args below meth c H1 locs (cells + 1) (slots + N) Q (F0 m (pc + 2) ls (.ref q :: rest))) : W p l e R s m args below meth c H locs cells slots Q (F0 m pc ls (.int n :: rest)) := by
  refine va_newa (atype := .int) (ty := .int) (a0 := (N, .inl (fun _ => 0))) cx.1 cx.2.1 (cx.2.2.2.1 _ wk_65) rfl cx.2.2.2.2 hI.1 hI.2.1 hI.2.2.1 hI.2.2.2 (fun _ => rfl) hn hN hb hf.1 hf.2 hdg (fun q cA H1 hK hP hD hS => ?_)
  have h := kca_i hK
  subst h
  exact kk q H1 ⟨hP, hD, hS, hI.2.2.2⟩
theorem k_newZ {n : Int32} (N : Nat) (cx : KC p c cc s args m own D ca) (hI : KI D A w s.heap H locs) (hn : ¬ n < 0) (hN : n.toNatClampNeg = N) (hb : N * componentBytes .boolean ≤ 536870912) (hf : cells + 1 ≤ R.cells ∧ slots + N ≤ R.slots) (hdg : decode cc pc = .ok (.newarray .boolean, 2))
    (kk : ∀ q H1, KI D A (w ++ [(q, .inl (ca 1, N, .inl (fun _ => 0)))]) s.heap H1 locs → W p l e R s m args below meth c H1 locs (cells + 1) (slots + N) Q (F0 m (pc + 2) ls (.ref q :: rest))) : W p l e R s m args below meth c H locs cells slots Q (F0 m pc ls (.int n :: rest)) := by
  refine va_newa (atype := .boolean) (ty := .boolean) (a0 := (N, .inl (fun _ => 0))) cx.1 cx.2.1 (cx.2.2.2.1 _ wk_66) rfl cx.2.2.2.2 hI.1 hI.2.1 hI.2.2.1 hI.2.2.2 (fun _ => rfl) hn hN hb hf.1 hf.2 hdg (fun q cA H1 hK hP hD hS => ?_)
  have h := kca_z hK
  subst h
  exact kk q H1 ⟨hP, hD, hS, hI.2.2.2⟩
/-- the three columns -/
theorem k_newC (cx : KC p c cc s args m RX0 D ca) (hO : va_AOA .int s) (hI : KI D A w s.heap H locs) (hf : cells + 4 ≤ R.cells ∧ slots + 123 ≤ R.slots) (hdg : decode cc pc = .ok (.multianewarray 16 2, 4))
    (kk : ∀ (q : Nat) (r : Nat → Nat) H1, KI D A ((w ++ [(q, .inl (ca 2, 3, .inr (.inr (.inr (.inr (fun i => if i < 3 then some (r i) else none))))))]) ++ [(r 0, .inl (ca 0, 40, .inl (fun _ => 0))), (r 1, .inl (ca 0, 40, .inl (fun _ => 0))), (r 2, .inl (ca 0, 40, .inl (fun _ => 0)))]) s.heap H1 locs → W p l e R s m args below meth c H1 locs (cells + 4) (slots + 123) Q (F0 m (pc + 4) ls (.ref q :: rest))) : W p l e R s m args below meth c H locs cells slots Q (F0 m pc ls (.int 40 :: .int 3 :: rest)) := by
  have hP : va_P D vwCl (w ++ va_pl [] (fun _ => .inl (ca 0, 40, .inl (fun _ => 0)))) H := by
    rw [show va_pl [] (fun _ => .inl (ca 0, 40, .inl (fun _ => 0))) = ([] : va_W) from rfl, List.append_nil]; exact hI.1
  have hD : va_D A (w ++ va_pl [] (fun _ => .inl (ca 0, 40, .inl (fun _ => 0)))) := by
    rw [show va_pl [] (fun _ => .inl (ca 0, 40, .inl (fun _ => 0))) = ([] : va_W) from rfl, List.append_nil]; exact hI.2.1
  have hcy : s.vm.findClass (FieldType.array .int).toString = some (ca 0) := (cx.2.2.2.2.2 0 (ca 0, .int) rfl).2
  refine va_mna (ty := .int) (N' := 3) (K' := 40) (z := (40, .inl (fun _ => 0))) cx.1 cx.2.1 cx.2.2.1 (cx.2.2.2.1 _ wk_23) hO (cx.2.2.2.1 _ wk_65) hcy cx.2.2.2.2 hP hD hI.2.2.1 hI.2.2.2 (by decide) (by decide) (by decide) (by decide) (by decide) (by decide) (by decide) (by decide) (by decide) hf.1 hf.2 (fun c9 => ?_) hdg (fun q r cA H1 hr hn hK hP1 hD1 hS1 => ?_)
  · unfold Jvm.Free.Multi.innerC; rw [arrV_new]; rfl
  · have h := kca_a hK
    subst h
    have e0 : va_pl ([] ++ (List.range 3).map r) (vr_up (fun _ => (.inl (ca 0, 40, .inl (fun _ => 0)) : va_E)) ((List.range 3).map r) (.inl (ca 0, 40, .inl (fun _ => 0)))) = [(r 0, .inl (ca 0, 40, .inl (fun _ => 0))), (r 1, .inl (ca 0, 40, .inl (fun _ => 0))), (r 2, .inl (ca 0, 40, .inl (fun _ => 0)))] := by
      simp [va_pl, vr_up, List.range, List.range.loop]
    rw [e0] at hP1 hD1
    exact kk q r H1 ⟨hP1, hD1, hS1, hI.2.2.2⟩
end KNEW
/-- a new object's cells -/
def kad (L : List Nat) : Nat → Nat := fun i => L.getD i 0
def xZ : XS := (fun _ => 0, fun _ => 0, fun _ => 0, fun _ => 0, fun _ => 0, fun _ => 0, fun _ => 0, 0, 0, 0, 0, 0, 0, 0)
def xNew : XS := xUl (xUk (xUp (xClr (xUA xZ (kFill 40 (-1) (xA xZ))) 3) 0) 8) 10
def xFs : List Value := [.null, .null, .null, .null, .null, .int 0, .int 0, .int 0, .int 0, .int 0, .int 0, .int 0]
/-- a constructor's contract: out of its bare cell it makes the world wF, at addresses of its own -/
def CN (l : Launch) (y : MethodName) (cd : ByteArray) (ml : Nat) (rm : Room) (D : va_G) (ca : Nat → ClassId) (a0 ci : Nat) (fs : List Value) (wF : (Nat → Nat) → va_W) (mc ms : Nat) : Prop :=
  ∀ sz : Nat, Met l y (.code y cd ml none :: WL) rm (va_Pc [.ref a0] (fun U => U.heap.size = sz ∧ va_P D vwCl [(a0, .inr (ci, fs))] U.heap ∧ va_K D vwCl (ktys ca) U ∧ va_D (fun _ => True) [(a0, .inr (ci, fs))] ∧ va_AOA .int U)) (fun _ st oc t => oc = .returned none ∧ (∃ ad : Nat → Nat, ad 0 = a0 ∧ va_P D vwCl (wF ad) t.heap ∧ va_D (va_A [(a0, .inr (ci, fs))] sz) (wF ad)) ∧ va_F (va_A [(a0, .inr (ci, fs))] sz) st t) mc ms (va_A [(a0, .inr (ci, fs))] sz)
theorem CN.of {l : Launch} {y : MethodName} {cd : ByteArray} {ml : Nat} {rm : Room} {D : va_G} {ca : Nat → ClassId} {a0 ci : Nat} {fs : List Value} {wF : (Nat → Nat) → va_W} {mc ms : Nat} (hy : plainName y.cls = true) (hin : y.name = "<init>") (hn : (lg_sl [.ref a0]).length ≤ ml)
    (body : ∀ (p : Program) (e : Env) (s : State) (m : MethodId) (below : List Frame) (meth : Method) (c : Code) (A : Nat → Prop) (ls : Array Slot), KC p c cd s [Value.ref a0].toArray m y.cls D ca → c.maxLocals = ml → meth.sig.returnType = none → meth.locks = false → meth.name = "<init>" → va_AOA .int s → KI D A [(a0, .inr (ci, fs))] s.heap s.heap [] → lv_has ls ml (lv_args 0 [.ref a0]) →
      W p l e rm s m [Value.ref a0].toArray below meth c s.heap [] 0 0 (MQ below (fun _ st oc t => oc = .returned none ∧ (∃ ad : Nat → Nat, ad 0 = a0 ∧ va_P D vwCl (wF ad) t.heap ∧ va_D A (wF ad)) ∧ va_F A st t) [Value.ref a0].toArray s mc ms A) (F0 m 0 ls [])) : CN l y cd ml rm D ca a0 ci fs wF mc ms := by
  intro sz
  refine Met.ofW (cc := cd) (maxL := ml) (ret := none) hy rfl ?_
  intro p e s m args below meth c s₁ B hml hv
  obtain ⟨rfl, hsz, hP, hK, hD0, hO⟩ := hv
  have hts := atoms_spec (ws := .code y cd ml none :: WL) B.pre
  have hown : s.vm.findClass y.cls = some m.cls := findClass_of_methodNamed B.named
  subst hsz
  have hD := hD0.self (sz := s.heap.size)
  have hl := lv_entry [.ref a0] (n := ml) hn
  rw [lg_entry_eq]
  exact body p e s m below meth c _ _ ⟨B.exec, B.bytes, hown, fun w hw => hts w (List.mem_cons_of_mem _ hw), hK⟩ hml B.returns B.notSynchronized ((name_of_methodNamed B.named B.method).1.trans hin) hO ⟨hP, hD, va_S.rf, fun q h => Or.inr h⟩ hl

set_option maxHeartbeats 4000000 in
set_option maxRecDepth 100000 in
theorem kX0_init (l : Launch) (D : va_G) (ca : Nat → ClassId) (a0 : Nat) : CN l yX0_init cX0_init 5 { frames := 1, cells := 8, slots := 1267, locals := 23 } D ca a0 0 xFs (fun ad => xw ad ca xNew) 8 1267 := by
  refine CN.of (by decide) rfl (Nat.le_of_ble_eq_true rfl) ?_
  intro p e s m below meth c A ls cx hml hr hlk hin hO hI hl
  generalize hlocs : ([] : List Loc) = locs at hI ⊢
  have hl : lv_has ls 5 [(0, .ref a0)] := hl
  refine lv_aload_n cx.1 cx.2.1 dX0_init_0 rfl (lv_at hl 0 rfl) ?_
  refine W.objInit cx.1 cx.2.1 cx.2.2.1 (cx.2.2.2.1 _ wk_20) (cx.2.2.2.1 _ wk_21) (cx.2.2.2.1 _ wk_22) rfl (by rw [hml]; exact hl.1) rfl dX0_init_1 (Nat.le_of_ble_eq_true rfl) (Nat.le_of_ble_eq_true rfl) ?_
  refine W.eq (g2 := F0 m 4 ls []) rfl ?_
  refine lv_aload_n cx.1 cx.2.1 dX0_init_4 rfl (lv_at hl 0 rfl) ?_
  refine lv_bipush (v := 40) cx.1 cx.2.1 dX0_init_5 (by decide) ?_
  refine k_newI 40 cx hI (by decide) (by decide) (by decide) ⟨Nat.le_of_ble_eq_true rfl, Nat.le_of_ble_eq_true rfl⟩ dX0_init_7 (fun q1 H hI => ?_)
  have hI : KI D A [(a0, .inr (0, [.null, .null, .null, .null, .null, .int 0, .int 0, .int 0, .int 0, .int 0, .int 0, .int 0])), (q1, .inl (ca 0, 40, .inl (fun _ => 0)))] s.heap H locs := hI
  refine va_putF (D := D) (ci := 0) (v := .ref q1) (ty := .array .int) (C := RX0) (T := TX0) (N := 12) cx.1 cx.2.1 cx.2.2.2.1 wk_X0 tyX0 tyX0_ok nmX0 cx.2.2.1 cx.2.2.2.2 hI.1 hI.2.1 hI.2.2.1 0 rfl rfl 0 (by decide) (cx.2.2.2.1 _ wk_28) (fun _ h9 => h9) rfl hin rfl (by decide +kernel) rfl rfl (Nat.le_of_ble_eq_true rfl) dX0_init_9 (fun H locs hP hD hS => ?_)
  have hI : KI D A [(a0, .inr (0, [.ref q1, .null, .null, .null, .null, .int 0, .int 0, .int 0, .int 0, .int 0, .int 0, .int 0])), (q1, .inl (ca 0, 40, .inl (fun _ => 0)))] s.heap H locs := ⟨hP, hD, hS, hI.2.2.2⟩
  refine lv_aload_n cx.1 cx.2.1 dX0_init_12 rfl (lv_at hl 0 rfl) ?_
  refine lv_bipush (v := 40) cx.1 cx.2.1 dX0_init_13 (by decide) ?_
  refine k_newI 40 cx hI (by decide) (by decide) (by decide) ⟨Nat.le_of_ble_eq_true rfl, Nat.le_of_ble_eq_true rfl⟩ dX0_init_15 (fun q2 H hI => ?_)
  have hI : KI D A [(a0, .inr (0, [.ref q1, .null, .null, .null, .null, .int 0, .int 0, .int 0, .int 0, .int 0, .int 0, .int 0])), (q1, .inl (ca 0, 40, .inl (fun _ => 0))), (q2, .inl (ca 0, 40, .inl (fun _ => 0)))] s.heap H locs := hI
  refine va_putF (D := D) (ci := 0) (v := .ref q2) (ty := .array .int) (C := RX0) (T := TX0) (N := 12) cx.1 cx.2.1 cx.2.2.2.1 wk_X0 tyX0 tyX0_ok nmX0 cx.2.2.1 cx.2.2.2.2 hI.1 hI.2.1 hI.2.2.1 0 rfl rfl 1 (by decide) (cx.2.2.2.1 _ wk_29) (fun _ h9 => h9) rfl hin rfl (by decide +kernel) rfl rfl (Nat.le_of_ble_eq_true rfl) dX0_init_17 (fun H locs hP hD hS => ?_)
  have hI : KI D A [(a0, .inr (0, [.ref q1, .ref q2, .null, .null, .null, .int 0, .int 0, .int 0, .int 0, .int 0, .int 0, .int 0])), (q1, .inl (ca 0, 40, .inl (fun _ => 0))), (q2, .inl (ca 0, 40, .inl (fun _ => 0)))] s.heap H locs := ⟨hP, hD, hS, hI.2.2.2⟩
  refine lv_aload_n cx.1 cx.2.1 dX0_init_20 rfl (lv_at hl 0 rfl) ?_
  refine lv_iconst (v := 3) cx.1 cx.2.1 dX0_init_21 (by decide) ?_
  refine lv_bipush (v := 40) cx.1 cx.2.1 dX0_init_22 (by decide) ?_
  refine k_newC cx hO hI ⟨Nat.le_of_ble_eq_true rfl, Nat.le_of_ble_eq_true rfl⟩ dX0_init_24 (fun q3 r H hI => ?_)
  have hI : KI D A [(a0, .inr (0, [.ref q1, .ref q2, .null, .null, .null, .int 0, .int 0, .int 0, .int 0, .int 0, .int 0, .int 0])), (q1, .inl (ca 0, 40, .inl (fun _ => 0))), (q2, .inl (ca 0, 40, .inl (fun _ => 0))), (q3, .inl (ca 2, 3, .inr (.inr (.inr (.inr (fun i => if i < 3 then some (r i) else none)))))), (r 0, .inl (ca 0, 40, .inl (fun _ => 0))), (r 1, .inl (ca 0, 40, .inl (fun _ => 0))), (r 2, .inl (ca 0, 40, .inl (fun _ => 0)))] s.heap H locs := hI
  refine va_putF (D := D) (ci := 0) (v := .ref q3) (ty := .array (.array .int)) (C := RX0) (T := TX0) (N := 12) cx.1 cx.2.1 cx.2.2.2.1 wk_X0 tyX0 tyX0_ok nmX0 cx.2.2.1 cx.2.2.2.2 hI.1 hI.2.1 hI.2.2.1 0 rfl rfl 2 (by decide) (cx.2.2.2.1 _ wk_30) (fun _ h9 => h9) rfl hin rfl (by decide +kernel) rfl rfl (Nat.le_of_ble_eq_true rfl) dX0_init_28 (fun H locs hP hD hS => ?_)
  have hI : KI D A [(a0, .inr (0, [.ref q1, .ref q2, .ref q3, .null, .null, .int 0, .int 0, .int 0, .int 0, .int 0, .int 0, .int 0])), (q1, .inl (ca 0, 40, .inl (fun _ => 0))), (q2, .inl (ca 0, 40, .inl (fun _ => 0))), (q3, .inl (ca 2, 3, .inr (.inr (.inr (.inr (fun i => if i < 3 then some (r i) else none)))))), (r 0, .inl (ca 0, 40, .inl (fun _ => 0))), (r 1, .inl (ca 0, 40, .inl (fun _ => 0))), (r 2, .inl (ca 0, 40, .inl (fun _ => 0)))] s.heap H locs := ⟨hP, hD, hS, hI.2.2.2⟩
  refine lv_aload_n cx.1 cx.2.1 dX0_init_31 rfl (lv_at hl 0 rfl) ?_
  refine lv_bipush (v := 40) cx.1 cx.2.1 dX0_init_32 (by decide) ?_
  refine k_newZ 40 cx hI (by decide) (by decide) (by decide) ⟨Nat.le_of_ble_eq_true rfl, Nat.le_of_ble_eq_true rfl⟩ dX0_init_34 (fun q7 H hI => ?_)
  have hI : KI D A [(a0, .inr (0, [.ref q1, .ref q2, .ref q3, .null, .null, .int 0, .int 0, .int 0, .int 0, .int 0, .int 0, .int 0])), (q1, .inl (ca 0, 40, .inl (fun _ => 0))), (q2, .inl (ca 0, 40, .inl (fun _ => 0))), (q3, .inl (ca 2, 3, .inr (.inr (.inr (.inr (fun i => if i < 3 then some (r i) else none)))))), (r 0, .inl (ca 0, 40, .inl (fun _ => 0))), (r 1, .inl (ca 0, 40, .inl (fun _ => 0))), (r 2, .inl (ca 0, 40, .inl (fun _ => 0))), (q7, .inl (ca 1, 40, .inl (fun _ => 0)))] s.heap H locs := hI
  refine va_putF (D := D) (ci := 0) (v := .ref q7) (ty := .array .boolean) (C := RX0) (T := TX0) (N := 12) cx.1 cx.2.1 cx.2.2.2.1 wk_X0 tyX0 tyX0_ok nmX0 cx.2.2.1 cx.2.2.2.2 hI.1 hI.2.1 hI.2.2.1 0 rfl rfl 3 (by decide) (cx.2.2.2.1 _ wk_31) (fun _ h9 => h9) rfl hin rfl (by decide +kernel) rfl rfl (Nat.le_of_ble_eq_true rfl) dX0_init_36 (fun H locs hP hD hS => ?_)
  have hI : KI D A [(a0, .inr (0, [.ref q1, .ref q2, .ref q3, .ref q7, .null, .int 0, .int 0, .int 0, .int 0, .int 0, .int 0, .int 0])), (q1, .inl (ca 0, 40, .inl (fun _ => 0))), (q2, .inl (ca 0, 40, .inl (fun _ => 0))), (q3, .inl (ca 2, 3, .inr (.inr (.inr (.inr (fun i => if i < 3 then some (r i) else none)))))), (r 0, .inl (ca 0, 40, .inl (fun _ => 0))), (r 1, .inl (ca 0, 40, .inl (fun _ => 0))), (r 2, .inl (ca 0, 40, .inl (fun _ => 0))), (q7, .inl (ca 1, 40, .inl (fun _ => 0)))] s.heap H locs := ⟨hP, hD, hS, hI.2.2.2⟩
  refine lv_aload_n cx.1 cx.2.1 dX0_init_39 rfl (lv_at hl 0 rfl) ?_
  refine lv_sipush (v := 1024) cx.1 cx.2.1 dX0_init_40 (by decide) ?_
  refine k_newI 1024 cx hI (by decide) (by decide) (by decide) ⟨Nat.le_of_ble_eq_true rfl, Nat.le_of_ble_eq_true rfl⟩ dX0_init_43 (fun q8 H hI => ?_)
  have hI : KI D A [(a0, .inr (0, [.ref q1, .ref q2, .ref q3, .ref q7, .null, .int 0, .int 0, .int 0, .int 0, .int 0, .int 0, .int 0])), (q1, .inl (ca 0, 40, .inl (fun _ => 0))), (q2, .inl (ca 0, 40, .inl (fun _ => 0))), (q3, .inl (ca 2, 3, .inr (.inr (.inr (.inr (fun i => if i < 3 then some (r i) else none)))))), (r 0, .inl (ca 0, 40, .inl (fun _ => 0))), (r 1, .inl (ca 0, 40, .inl (fun _ => 0))), (r 2, .inl (ca 0, 40, .inl (fun _ => 0))), (q7, .inl (ca 1, 40, .inl (fun _ => 0))), (q8, .inl (ca 0, 1024, .inl (fun _ => 0)))] s.heap H locs := hI
  refine va_putF (D := D) (ci := 0) (v := .ref q8) (ty := .array .int) (C := RX0) (T := TX0) (N := 12) cx.1 cx.2.1 cx.2.2.2.1 wk_X0 tyX0 tyX0_ok nmX0 cx.2.2.1 cx.2.2.2.2 hI.1 hI.2.1 hI.2.2.1 0 rfl rfl 4 (by decide) (cx.2.2.2.1 _ wk_32) (fun _ h9 => h9) rfl hin rfl (by decide +kernel) rfl rfl (Nat.le_of_ble_eq_true rfl) dX0_init_45 (fun H locs hP hD hS => ?_)
  have hI : KI D A [(a0, .inr (0, [.ref q1, .ref q2, .ref q3, .ref q7, .ref q8, .int 0, .int 0, .int 0, .int 0, .int 0, .int 0, .int 0])), (q1, .inl (ca 0, 40, .inl (fun _ => 0))), (q2, .inl (ca 0, 40, .inl (fun _ => 0))), (q3, .inl (ca 2, 3, .inr (.inr (.inr (.inr (fun i => if i < 3 then some (r i) else none)))))), (r 0, .inl (ca 0, 40, .inl (fun _ => 0))), (r 1, .inl (ca 0, 40, .inl (fun _ => 0))), (r 2, .inl (ca 0, 40, .inl (fun _ => 0))), (q7, .inl (ca 1, 40, .inl (fun _ => 0))), (q8, .inl (ca 0, 1024, .inl (fun _ => 0)))] s.heap H locs := ⟨hP, hD, hS, hI.2.2.2⟩
  obtain ⟨ad, had⟩ : ∃ ad : Nat → Nat, ad = kad [a0, q1, q2, q3, r 0, r 1, r 2, q7, q8] := ⟨_, rfl⟩
  have e0 : ad 0 = a0 := by rw [had]; rfl
  have hc : (fun i => if i < 3 then some (r i) else none : Nat → Option Nat) = xcols ad := by
    funext i
    simp only [xcols]
    by_cases hi : i < 3
    · rw [if_pos hi, if_pos hi, had]
      rcases (show i = 0 ∨ i = 1 ∨ i = 2 by omega) with rfl | rfl | rfl <;> rfl
    · rw [if_neg hi, if_neg hi]
  rw [hc] at hI
  have f0 : ad 0 = a0 := by rw [had]; rfl
  have f1 : ad 1 = q1 := by rw [had]; rfl
  have f2 : ad 2 = q2 := by rw [had]; rfl
  have f3 : ad 3 = q3 := by rw [had]; rfl
  have f4 : ad 4 = r 0 := by rw [had]; rfl
  have f5 : ad 5 = r 1 := by rw [had]; rfl
  have f6 : ad 6 = r 2 := by rw [had]; rfl
  have f7 : ad 7 = q7 := by rw [had]; rfl
  have f8 : ad 8 = q8 := by rw [had]; rfl
  have hJ : KI D A (xw ad ca xZ) s.heap H locs := by unfold xw; rw [f0, f1, f2, f3, f4, f5, f6, f7, f8]; exact hI
  clear f0 f1 f2 f3 f4 f5 f6 f7 f8 hc had
  clear hI
  subst e0
  have hI := hJ
  refine lv_aload_n cx.1 cx.2.1 dX0_init_48 rfl (lv_at hl 0 rfl) ?_
  refine xg_0 cx hI dX0_init_49 ?_
  refine lv_iconst (v := (-1)) cx.1 cx.2.1 dX0_init_52 (by decide) ?_
  refine k_fillAt ((xw ad ca xZ).take 1) ((xw ad ca xZ).drop 2) (n := 40) (W1 := xw ad ca (xUA xZ (kFill 40 (-1) (xA xZ)))) (by decide) cx (hl.1.trans hml.symm) hI rfl rfl wk_25 ⟨Nat.le_of_ble_eq_true rfl, Nat.le_of_ble_eq_true rfl⟩ (Nat.zero_le _) dX0_init_53 ⟨Nat.le_of_ble_eq_true rfl, Nat.le_of_ble_eq_true rfl⟩ (fun H locs hI => ?_)
  refine lv_aload_n cx.1 cx.2.1 dX0_init_56 rfl (lv_at hl 0 rfl) ?_
  refine xg_2 cx hI dX0_init_57 ?_
  refine lv_astore_n (lv' := [(1, .ref (ad 3)), (0, .ref (ad 0))]) cx.1 cx.2.1 dX0_init_60 rfl hl (by decide) rfl (fun ls hl => ?_)
  refine lv_aload_n cx.1 cx.2.1 dX0_init_61 rfl (lv_at hl 0 rfl) ?_
  refine xl_cols cx hI dX0_init_62 ?_
  refine lv_istore_n (lv' := [(2, .int 3), (1, .ref (ad 3)), (0, .ref (ad 0))]) cx.1 cx.2.1 dX0_init_63 rfl hl (by decide) rfl (fun ls hl => ?_)
  refine lv_iconst (v := 0) cx.1 cx.2.1 dX0_init_64 (by decide) ?_
  refine lv_istore_n (lv' := [(3, .int 0), (2, .int 3), (1, .ref (ad 3)), (0, .ref (ad 0))]) cx.1 cx.2.1 dX0_init_65 rfl hl (by decide) rfl (fun ls hl => ?_)
  refine k_loop 3 (fun i => (xw ad ca (xClr (xUA xZ (kFill 40 (-1) (xA xZ))) i))) (fun i => [(3, .int (nI i)), (2, .int 3), (1, .ref (ad 3)), (0, .ref (ad 0))]) hI (lv_sub hl [0, 1, 2, 3] rfl) (fun H locs ls hI hl => ?_) (fun i hi H locs ls hI hl ih => ?_)
  · have hI : KI D A (xw ad ca (xClr (xUA xZ (kFill 40 (-1) (xA xZ))) 3)) s.heap H locs := hI
    have hl : lv_has ls 5 [(3, .int (nI 3)), (2, .int 3), (1, .ref (ad 3)), (0, .ref (ad 0))] := hl
    refine lv_iload_n cx.1 cx.2.1 dX0_init_66 rfl (lv_at hl 0 rfl) ?_
    refine lv_iload_n cx.1 cx.2.1 dX0_init_67 rfl (lv_at hl 1 rfl) ?_
    refine lv_icmp_ge (tgt := 88) cx.1 cx.2.1 dX0_init_68 (by decide) (fun _ => ?_) (fun h9 => absurd (by decide : (3 : Int32) ≤ nI 3) h9)
    refine lv_aload_n cx.1 cx.2.1 dX0_init_88 rfl (lv_at hl 3 rfl) ?_
    refine lv_iconst (v := 0) cx.1 cx.2.1 dX0_init_89 (by decide) ?_
    refine xp_6 cx hI dX0_init_90 (fun H locs hI => ?_)
    refine lv_aload_n cx.1 cx.2.1 dX0_init_93 rfl (lv_at hl 3 rfl) ?_
    refine lv_bipush (v := 8) cx.1 cx.2.1 dX0_init_94 (by decide) ?_
    refine xp_10 cx hI dX0_init_96 (fun H locs hI => ?_)
    refine lv_aload_n cx.1 cx.2.1 dX0_init_99 rfl (lv_at hl 3 rfl) ?_
    refine lv_bipush (v := 10) cx.1 cx.2.1 dX0_init_100 (by decide) ?_
    refine xp_11 cx hI dX0_init_102 (fun H locs hI => ?_)
    refine W.widen (k := 8) (n := 1267) (by omega) (by omega) ?_
    exact W.vret cx.1 cx.2.1 hr (fun t ht hW => ⟨rfl, ⟨ad, rfl, by rw [ht]; exact hI.1, hI.2.1⟩, hI.2.2.1.F ht⟩) hI.2.2.1.2.2 dX0_init_105 hlk
  · have hI : KI D A (xw ad ca (xClr (xUA xZ (kFill 40 (-1) (xA xZ))) i)) s.heap H locs := hI
    have hl : lv_has ls 5 [(3, .int (nI i)), (2, .int 3), (1, .ref (ad 3)), (0, .ref (ad 0))] := hl
    refine lv_iload_n cx.1 cx.2.1 dX0_init_66 rfl (lv_at hl 0 rfl) ?_
    refine lv_iload_n cx.1 cx.2.1 dX0_init_67 rfl (lv_at hl 1 rfl) ?_
    refine lv_icmp_ge (tgt := 88) cx.1 cx.2.1 dX0_init_68 (by decide) (fun h9 => absurd h9 (nI_ge hi (by decide))) (fun _ => ?_)
    refine lv_aload_n cx.1 cx.2.1 dX0_init_71 rfl (lv_at hl 2 rfl) ?_
    refine lv_iload_n cx.1 cx.2.1 dX0_init_72 rfl (lv_at hl 0 rfl) ?_
    refine xa_cols cx hI (vp_in_nI hi (by decide)) dX0_init_73 ?_
    refine lv_astore (lv' := [(4, .ref (ad (4 + (nI i).toNatClampNeg))), (3, .int (nI i)), (2, .int 3), (1, .ref (ad 3)), (0, .ref (ad 0))]) cx.1 cx.2.1 dX0_init_74 hl (by decide) rfl (fun ls hl => ?_)
    refine lv_aload cx.1 cx.2.1 dX0_init_76 (lv_at hl 0 rfl) ?_
    refine lv_iconst (v := (-1)) cx.1 cx.2.1 dX0_init_78 (by decide) ?_
    refine k_fillcol cx (hl.1.trans hml.symm) hI (vp_in_nI hi (by decide)) wk_25 ⟨Nat.le_of_ble_eq_true rfl, Nat.le_of_ble_eq_true rfl⟩ (Nat.zero_le _) dX0_init_79 ⟨Nat.le_of_ble_eq_true rfl, Nat.le_of_ble_eq_true rfl⟩ (fun H locs hI => ?_)
    refine lv_iinc (v := nI (i + 1)) (lv' := [(3, .int (nI (i + 1))), (4, .ref (ad (4 + (nI i).toNatClampNeg))), (2, .int 3), (1, .ref (ad 3)), (0, .ref (ad 0))]) cx.1 cx.2.1 dX0_init_82 hl (k := 1) rfl (nI_1 i) (by decide) rfl (fun ls hl => ?_)
    refine lv_goto (tgt := 66) cx.1 cx.2.1 dX0_init_85 (by decide) ?_
    exact ih _ _ _ hI (lv_sub hl [0, 2, 3, 4] rfl)
/-! MINE: calls within one world, in short. -/
theorem kn0 (w : va_W) : w = [] ++ (w ++ []) := (List.append_nil w).symm
theorem kn1 (w : va_W) : w = w ++ ([] ++ []) := (List.append_nil w).symm
theorem xw_ad {ad : Nat → Nat} {ca : Nat → ClassId} {v v' : XS} : (xw ad ca v').map Prod.fst = (xw ad ca v).map Prod.fst := rfl
section KC2
variable {p : Program} {l : Launch} {e : Env} {R : Room} {s : State} {m : MethodId} {args : Array Value} {below : List Frame} {meth : Method} {c : Code} {H : Heap} {locs : List Loc} {cells slots : Nat} {Q : State → Prop}
variable {cc : ByteArray} {pc : Nat} {ls : Array Slot} {rest : List Value} {D : va_G} {ca : Nat → ClassId} {A : Nat → Prop} {ad : Nat → Nat} {own : String}
variable {y : MethodName} {bytes : ByteArray} {maxL index nL : Nat} {ret : Option FieldType} {rm : Room} {As : List Value} {st0 : List Value} {r : Int32} {W0 : va_W}
theorem xc_i (n : Nat) {v v' : XS} (cx : KC p c cc s args m own D ca) (hls : ls.size = c.maxLocals) (hM : CM l y bytes maxL ret rm D ca (xw ad ca v) (.ref (ad 0) :: As) (some (.int r)) (xw ad ca v')) (hI : KI D A (xw ad ca v) s.heap H locs)
    (h0 : Cond.code y bytes maxL ret ∈ WL) (h1 : Cond.methodLink own index y ∈ WL) (h2 : Cond.instanceMethod y ∈ WL) (h3 : Cond.selects RX0 y y ∈ WL)
    (hd : y.cls = RX0 ∧ (parseMethodDescriptor y.desc).map (fun d => d.parameters.length) = some n) (hn : As.length = n) (hrm : rm.cells = 0 ∧ rm.slots = 0) (hR : rm.frames + 1 ≤ R.frames ∧ 8 + (maxL + 11) + rm.locals ≤ R.locals) (hW : (rest.map fun v => v.category).sum ≤ 8) (hdg : decode cc pc = .ok (.invokevirtual index, 3)) (hf : cells ≤ R.cells ∧ slots ≤ R.slots)
    (hst : st0 = As.reverse ++ .ref (ad 0) :: rest) (kk : ∀ H1 locs1, KI D A (xw ad ca v') s.heap H1 locs1 → W p l e R s m args below meth c H1 locs1 cells slots Q (F0 m (pc + 3) ls (.int r :: rest))) : W p l e R s m args below meth c H locs cells slots Q (F0 m pc ls st0) :=
  k_callV (C := RX0) (T := TX0) (N := 12) (ci := 0) n [] [] cx hls hM hI (kn0 _) (kn0 _) xw_ad rfl rfl h0 h1 h2 h3 wk_1 ⟨hd.1, by rw [hd.1]; decide, by rw [hd.1]; decide, hd.2⟩ hn hrm hR hW hdg hf hst kk
theorem xc_v (n : Nat) {v v' : XS} (cx : KC p c cc s args m own D ca) (hls : ls.size = c.maxLocals) (hM : CM l y bytes maxL ret rm D ca (xw ad ca v) (.ref (ad 0) :: As) none (xw ad ca v')) (hI : KI D A (xw ad ca v) s.heap H locs)
    (h0 : Cond.code y bytes maxL ret ∈ WL) (h1 : Cond.methodLink own index y ∈ WL) (h2 : Cond.instanceMethod y ∈ WL) (h3 : Cond.selects RX0 y y ∈ WL)
    (hd : y.cls = RX0 ∧ (parseMethodDescriptor y.desc).map (fun d => d.parameters.length) = some n) (hn : As.length = n) (hrm : rm.cells = 0 ∧ rm.slots = 0) (hR : rm.frames + 1 ≤ R.frames ∧ 8 + (maxL + 11) + rm.locals ≤ R.locals) (hW : (rest.map fun v => v.category).sum ≤ 8) (hdg : decode cc pc = .ok (.invokevirtual index, 3)) (hf : cells ≤ R.cells ∧ slots ≤ R.slots)
    (hst : st0 = As.reverse ++ .ref (ad 0) :: rest) (kk : ∀ H1 locs1, KI D A (xw ad ca v') s.heap H1 locs1 → W p l e R s m args below meth c H1 locs1 cells slots Q (F0 m (pc + 3) ls rest)) : W p l e R s m args below meth c H locs cells slots Q (F0 m pc ls st0) :=
  k_callV (C := RX0) (T := TX0) (N := 12) (ci := 0) n [] [] cx hls hM hI (kn0 _) (kn0 _) xw_ad rfl rfl h0 h1 h2 h3 wk_1 ⟨hd.1, by rw [hd.1]; decide, by rw [hd.1]; decide, hd.2⟩ hn hrm hR hW hdg hf hst kk
/-- a static method without a world of its own -/
theorem ks_i (n : Nat) (cx : KC p c cc s args m own D ca) (hls : ls.size = c.maxLocals) (hM : CM l y bytes maxL ret rm D ca [] As (some (.int r)) []) (hI : KI D A W0 s.heap H locs)
    (h0 : Cond.code y bytes maxL ret ∈ WL) (h1 : Cond.methodLink own index y ∈ WL) (h2 : Cond.static y ∈ WL) (h4 : Cond.initialized y.cls ∈ WL)
    (hd : y.cls ≠ "java/lang/invoke/MethodHandle" ∧ y.cls ≠ "java/lang/invoke/VarHandle" ∧ (parseMethodDescriptor y.desc).map (fun d => d.parameters.length) = some n) (hn : As.length = n) (hrm : rm.cells = 0 ∧ rm.slots = 0) (hR : rm.frames + 1 ≤ R.frames ∧ 8 + (maxL + 11) + rm.locals ≤ R.locals) (hW : (rest.map fun v => v.category).sum ≤ 8) (hdg : decode cc pc = .ok (.invokestatic index, 3)) (hf : cells ≤ R.cells ∧ slots ≤ R.slots)
    (hst : st0 = As.reverse ++ rest) (kk : ∀ H1 locs1, KI D A W0 s.heap H1 locs1 → W p l e R s m args below meth c H1 locs1 cells slots Q (F0 m (pc + 3) ls (.int r :: rest))) : W p l e R s m args below meth c H locs cells slots Q (F0 m pc ls st0) :=
  k_callS n W0 [] cx hls hM hI (kn1 _) (kn1 _) rfl h0 h1 h2 h4 hd hn hrm hR hW hdg hf hst kk
end KC2

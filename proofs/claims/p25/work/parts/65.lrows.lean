/-! MINE: the law's rows at keys by number; what its leaves answer. -/
section LR2
variable {p : Program} {l : Launch} {e : Env} {R : Room} {s : State} {m : MethodId} {args : Array Value} {below : List Frame} {meth : Method} {c0 : Code} {H : Heap} {locs : List Loc} {cells slots : Nat} {Q : State → Prop}
variable {cc : ByteArray} {pc : Nat} {ls : Array Slot} {rest : List Value} {D : va_G} {ca : Nat → ClassId} {A : Nat → Prop} {ad : Nat → Nat} {own : String} {oa cb sa : Nat} {v : XS} {o c h : Nat → Int32} {tl : va_W}
theorem lr_on (cx : KC p c0 cc s args m own D ca) (hI : KI D A (lw ad oa cb ca v o c tl) s.heap H locs) {i : Nat} (hi : i < 40) (hdg : decode cc pc = .ok (.iaload, 1)) (k : W p l e R s m args below meth c0 H locs cells slots Q (F0 m (pc + 1) ls (.int (o i) :: rest))) : W p l e R s m args below meth c0 H locs cells slots Q (F0 m pc ls (.int (nI i) :: .ref oa :: rest)) := by
  refine lr_o cx hI (vp_in_nI hi (by decide)) hdg ?_
  rw [kx hi]
  exact k
theorem ls_on (cx : KC p c0 cc s args m own D ca) (hI : KI D A (lw ad oa cb ca v o c tl) s.heap H locs) {i : Nat} {y : Int32} (hi : i < 40) (hdg : decode cc pc = .ok (.iastore, 1)) (k : ∀ (H : Heap) (locs : List Loc), KI D A (lw ad oa cb ca v (upd o i y) c tl) s.heap H locs → W p l e R s m args below meth c0 H locs cells slots Q (F0 m (pc + 1) ls rest)) : W p l e R s m args below meth c0 H locs cells slots Q (F0 m pc ls (.int y :: .int (nI i) :: .ref oa :: rest)) := by
  refine ls_o cx hI (vp_in_nI hi (by decide)) hdg (fun H locs hI => k H locs ?_)
  rw [kx hi] at hI
  exact hI
theorem k6 {j : Nat} (h : j < 6) : (nI j).toNatClampNeg = j := nI_clamp (by omega)
theorem lr_hn (cx : KC p c0 cc s args m own D ca) (hI : KI D A (lw ad oa cb ca v o c (hw sa ca h)) s.heap H locs) {i : Nat} (hi : i < 6) (hdg : decode cc pc = .ok (.iaload, 1)) (k : W p l e R s m args below meth c0 H locs cells slots Q (F0 m (pc + 1) ls (.int (h i) :: rest))) : W p l e R s m args below meth c0 H locs cells slots Q (F0 m pc ls (.int (nI i) :: .ref sa :: rest)) := by
  refine lr_h cx hI (vp_in_nI hi (by decide)) hdg ?_
  rw [k6 hi]
  exact k
theorem ls_hn (cx : KC p c0 cc s args m own D ca) (hI : KI D A (lw ad oa cb ca v o c (hw sa ca h)) s.heap H locs) {i : Nat} {y : Int32} (hi : i < 6) (hdg : decode cc pc = .ok (.iastore, 1)) (k : ∀ (H : Heap) (locs : List Loc), KI D A (lw ad oa cb ca v o c (hw sa ca (upd h i y))) s.heap H locs → W p l e R s m args below meth c0 H locs cells slots Q (F0 m (pc + 1) ls rest)) : W p l e R s m args below meth c0 H locs cells slots Q (F0 m pc ls (.int y :: .int (nI i) :: .ref sa :: rest)) := by
  refine ls_h cx hI (vp_in_nI hi (by decide)) hdg (fun H locs hI => k H locs ?_)
  rw [k6 hi] at hI
  exact hI
theorem lr_c1 (cx : KC p c0 cc s args m own D ca) (hI : KI D A [(cb, .inl (ca 0, 7, .inl c))] s.heap H locs) {i : Int32} (hin : vp_in i 7) (hdg : decode cc pc = .ok (.iaload, 1)) (k : W p l e R s m args below meth c0 H locs cells slots Q (F0 m (pc + 1) ls (.int (c i.toNatClampNeg) :: rest))) : W p l e R s m args below meth c0 H locs cells slots Q (F0 m pc ls (.int i :: .ref cb :: rest)) := va_iald cx.1 cx.2.1 cx.2.2.2.2 hI.1 0 0 rfl rfl hin hdg k
end LR2
theorem even_is {v : XS} {j : Nat} (hj : j < 40) : xBeh v (nI j) = (!decide (xC v 0 j = xBro v (nI j) 0) || (!decide (xC v 1 j = xBro v (nI j) 1) || !decide (xC v 2 j = xBro v (nI j) 2))) := by
  unfold xBeh
  rw [kx hj]
theorem even_t {v : XS} {j : Nat} (hj : j < 40) (h0 : xC v 0 j = xBro v (nI j) 0) (h1 : xC v 1 j = xBro v (nI j) 1) (h2 : xC v 2 j = xBro v (nI j) 2) : (1 : Int32) = b2i (!xBeh v (nI j)) := by
  rw [even_is hj, decide_eq_true h0, decide_eq_true h1, decide_eq_true h2]
  rfl
theorem even_f0 {v : XS} {j : Nat} (hj : j < 40) (h : ¬ xC v 0 j = xBro v (nI j) 0) : (0 : Int32) = b2i (!xBeh v (nI j)) := by
  rw [even_is hj, decide_eq_false h]
  rfl
theorem even_f1 {v : XS} {j : Nat} (hj : j < 40) (h : ¬ xC v 1 j = xBro v (nI j) 1) : (0 : Int32) = b2i (!xBeh v (nI j)) := by
  rw [even_is hj, decide_eq_false h]
  cases decide (xC v 0 j = xBro v (nI j) 0) <;> rfl
theorem even_f2 {v : XS} {j : Nat} (hj : j < 40) (h : ¬ xC v 2 j = xBro v (nI j) 2) : (0 : Int32) = b2i (!xBeh v (nI j)) := by
  rw [even_is hj, decide_eq_false h]
  cases decide (xC v 0 j = xBro v (nI j) 0) <;> cases decide (xC v 1 j = xBro v (nI j) 1) <;> rfl
theorem seen_a {v : XS} {k : Int32} (h : xOld v k = false) : (0 : Int32) = b2i (xSeen v k) := by
  unfold xSeen
  rw [h]
  rfl
theorem seen_b {v : XS} {k : Int32} (h : xOld v k = true) (h2 : ¬ xp v = 2) : (1 : Int32) = b2i (xSeen v k) := by
  unfold xSeen
  rw [h, decide_eq_false h2]
  rfl
theorem seen_c {v : XS} {k : Int32} (h2 : xp v = 2) (h3 : xSh v k = false) : (0 : Int32) = b2i (xSeen v k) := by
  unfold xSeen
  rw [h3, decide_eq_true h2]
  cases xOld v k <;> rfl
theorem seen_d {v : XS} {k : Int32} (h : xOld v k = true) (h3 : xSh v k = true) : (1 : Int32) = b2i (xSeen v k) := by
  unfold xSeen
  rw [h, h3]
  cases decide (xp v = 2) <;> rfl

/-! MINE: 'throw new E(text)' in the class: one row. -/
def knames : List String := ["java/lang/RuntimeException", "java/lang/Exception"]
section KTHROW
variable {p : Program} {l : Launch} {e : Env} {R : Room} {s : State} {m : MethodId} {args : Array Value} {below : List Frame} {meth : Method} {c : Code} {H : Heap} {locs : List Loc}
variable {cc : ByteArray} {pc : Nat} {ls : Array Slot} {rest : List Value} {D : va_G} {ca : Nat → ClassId} {A : Nat → Prop} {w : va_W} {ψ : String → Prop} {Qc : Array Value → State → Outcome → State → Prop}
theorem kt_X {E : String} {t : State} (hψ : ψ E) (hI : KI D A w s.heap H locs) (h1 : H.size ≤ t.heap.size) (h2 : ∀ q : Nat, q < H.size → t.heap[q]? = H[q]?) : KX D w ψ A E s t := by
  obtain ⟨hP, hD, hS, hA⟩ := hI
  refine ⟨hψ, hP.kept (fun k q hk => h2 q.1 (hP k q hk).lt), Nat.le_trans hS.1 h1, fun q hq hn => ?_⟩
  rw [h2 q (Nat.lt_of_lt_of_le hq hS.1)]
  exact hS.2.1 q hq hn
theorem kt_std {cls text : String} {ik is ic : Nat} (cx : KC p c cc s args m RX0 D ca) (hlS : l.stackTraces = false) (hlk : meth.locks = false) (htab : ∀ x ∈ c.exceptionTable.toList, False) (hE : KE A s s.heap) (hI : KI D A w s.heap H locs) (hls : ls.size = c.maxLocals)
    (hcls : Bundle.fit cls = true) (hk : Cond.classLink RX0 ik cls ∈ WL) (hini : Cond.initialized cls ∈ WL) (hstr : (is, text) ∈ kstrs) (hat : ∀ w ∈ (vx_atS RX0 ic cls knames).filter goodWord, w ∈ WL) (hbad : ∀ w ∈ (vx_atS RX0 ic cls knames).filter (fun w => !goodWord w), w ∈ kws) (hgood : ∀ w ∈ vx_atS RX0 ic cls knames, vx_ot w = true)
    (d0 : decode cc pc = .ok (.new ik, 3)) (d3 : decode cc (pc + 3) = .ok (.dup, 1)) (d4 : decode cc (pc + 4) = .ok (.ldc is, 2)) (d6 : decode cc (pc + 6) = .ok (.invokespecial ic, 3)) (d9 : decode cc (pc + 9) = .ok (.athrow, 1))
    (hR : 6 ≤ R.frames ∧ (rest.map fun v => v.category).sum + 82 ≤ R.locals) (hc : 1 ≤ R.cells ∧ 6 ≤ R.slots) (hψ : ψ cls) :
    W p l e R s m args below meth c H locs 0 0 (vx_MQ below Qc (KX D w ψ A) args s 1 6 A) (F0 m pc ls rest) := by
  obtain ⟨sa, hsa⟩ := hE.2.2.1 _ hstr
  have hw : ∀ w ∈ WL, w.before args s = true := cx.2.2.2.1
  refine vx_throwS (names := knames) (A := A) cx.1 cx.2.1 hlS cx.2.2.1 hcls (by decide) (hw _ hk) (hw _ hini) hsa ?_ ?_ hE.1 hE.2.1 hI.2.2.1 hls d0 d3 d4 d6 d9 (fun x hx => (htab x hx).elim) (Nat.lt_of_lt_of_le (by decide) hR.1) (by show _ + (13 * (2 + 1) + 43) ≤ _; exact hR.2) (by omega) (by omega) hlk (fun t _ h1 h2 => kt_X hψ hI h1 h2) hI.2.2.1.2.2 (Nat.le_refl _) (Nat.le_refl _)
  · exact vx_hat (fun w h => hw w (hat w h)) hbad (fun w h => va_Nw.use (by simp only [kws, List.mem_cons, List.not_mem_nil, or_false] at h; rcases h with rfl | rfl | rfl | rfl | rfl | rfl | rfl <;> rfl) (hE.2.2.2.1 w h))
  · intro w h
    rcases List.mem_cons.mp h with rfl | h
    · rfl
    · rcases List.mem_cons.mp h with rfl | h
      · rfl
      · exact hgood w h
end KTHROW
theorem kt_good {ic : Nat} {cls : String} (h : ∀ w ∈ (vx_atS RX0 ic cls knames).filter goodWord, w ∈ lw_tbl) : ∀ w ∈ (vx_atS RX0 ic cls knames).filter goodWord, w ∈ WL := fun w hw => List.mem_filter.mpr ⟨h w hw, (List.mem_filter.mp hw).2⟩
theorem kt_iob1 : ∀ w ∈ (vx_atS RX0 52 "java/lang/IndexOutOfBoundsException" knames).filter goodWord, w ∈ lw_tbl := by decide +kernel
theorem kt_iob2 : ∀ w ∈ (vx_atS RX0 52 "java/lang/IndexOutOfBoundsException" knames).filter (fun w => !goodWord w), w ∈ kws := by decide +kernel
theorem kt_iob3 : ∀ w ∈ vx_atS RX0 52 "java/lang/IndexOutOfBoundsException" knames, vx_ot w = true := by decide +kernel
theorem kt_iae1 : ∀ w ∈ (vx_atS RX0 63 "java/lang/IllegalArgumentException" knames).filter goodWord, w ∈ lw_tbl := by decide +kernel
theorem kt_iae2 : ∀ w ∈ (vx_atS RX0 63 "java/lang/IllegalArgumentException" knames).filter (fun w => !goodWord w), w ∈ kws := by decide +kernel
theorem kt_iae3 : ∀ w ∈ vx_atS RX0 63 "java/lang/IllegalArgumentException" knames, vx_ot w = true := by decide +kernel
theorem kt_ise1 : ∀ w ∈ (vx_atS RX0 71 "java/lang/IllegalStateException" knames).filter goodWord, w ∈ lw_tbl := by decide +kernel
theorem kt_ise2 : ∀ w ∈ (vx_atS RX0 71 "java/lang/IllegalStateException" knames).filter (fun w => !goodWord w), w ∈ kws := by decide +kernel
theorem kt_ise3 : ∀ w ∈ vx_atS RX0 71 "java/lang/IllegalStateException" knames, vx_ot w = true := by decide +kernel

/-! MINE: the law's own methods: they call the class, and catch. -/
def ow (oa : Nat) (ca : Nat → ClassId) (f : Nat → Int64) : va_W := [(oa, .inl (ca 3, 1, .inr (.inl f)))]
def kOf (n : Nat) (f : Nat → Int64) (r : Int64) : Nat → Int64 := if n = 0 then vp_updL f 0 r else f
def kSt (n : Nat) (v v' : XS) : XS := if n = 0 then v' else v
theorem kn2 (a b : va_W) : a ++ b = a ++ (b ++ []) := by rw [List.append_nil]
theorem ox_ad {oa : Nat} {ad : Nat → Nat} {ca : Nat → ClassId} {f f' : Nat → Int64} {v v' : XS} : (ow oa ca f' ++ xw ad ca v').map Prod.fst = (ow oa ca f ++ xw ad ca v).map Prod.fst := rfl
section KLH
variable {p : Program} {l : Launch} {e : Env} {R : Room} {s : State} {m : MethodId} {args : Array Value} {below : List Frame} {meth : Method} {c : Code} {H : Heap} {locs : List Loc} {cells slots : Nat} {Q : State → Prop}
variable {cc : ByteArray} {pc : Nat} {ls : Array Slot} {rest : List Value} {D : va_G} {ca : Nat → ClassId} {A : Nat → Prop} {ad : Nat → Nat} {own : String} {oa : Nat} {f : Nat → Int64}
theorem kl_st {w : va_W} (cx : KC p c cc s args m own D ca) (hI : KI D A (ow oa ca f ++ w) s.heap H locs) {y : Int64} (hdg : decode cc pc = .ok (.lastore, 1)) (kk : ∀ (H : Heap) (locs : List Loc), KI D A (ow oa ca (vp_updL f 0 y) ++ w) s.heap H locs → W p l e R s m args below meth c H locs cells slots Q (F0 m (pc + 1) ls rest)) : W p l e R s m args below meth c H locs cells slots Q (F0 m pc ls (.long y :: .int 0 :: .ref oa :: rest)) :=
  va_last cx.1 cx.2.1 cx.2.2.2.2 hI.1 hI.2.1 hI.2.2.1 0 3 rfl rfl (vp0 (by decide) (by decide)) hdg (fun H1 locs1 hP hD hS => kk H1 locs1 ⟨hP, hD, hS, hI.2.2.2⟩)
theorem kl_ld {w : va_W} (cx : KC p c cc s args m own D ca) (hI : KI D A (ow oa ca f ++ w) s.heap H locs) (hdg : decode cc pc = .ok (.laload, 1)) (kk : W p l e R s m args below meth c H locs cells slots Q (F0 m (pc + 1) ls (.long (f 0) :: rest))) : W p l e R s m args below meth c H locs cells slots Q (F0 m pc ls (.int 0 :: .ref oa :: rest)) :=
  va_lald cx.1 cx.2.1 cx.2.2.2.2 hI.1 0 3 rfl rfl (vp0 (by decide) (by decide)) hdg kk
theorem kl_nc (hE : KE A s s.heap) {E F : String} (h1 : E ∈ kexs) (h2 : F ∈ kexs) (h : E ≠ F) : va_Nc E F s := hE.2.2.2.2 E h1 F h2 h
theorem kl_ys (hE : KE A s s.heap) {E : String} (h1 : Cond.castable E E ∈ kws) : (Cond.castable E E).before args s = true := va_Nw.use rfl (hE.2.2.2.1 _ h1)
end KLH

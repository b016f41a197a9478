/-! MINE: what each method of the class does to its state, as a function (the class's own words). -/
def xWithin (x a b : Int32) : Bool := !decide (x < a) && !decide (b < x)
def xFits (v : XS) (b : Int32) : Bool := !decide (xt v = 1) || !decide (xq v < b)
def xCbw (v : XS) (a b : Int32) : Bool := xWithin a 0 999 && (xWithin b 0 999 && (!decide (xp v = 2) || xFits v b))
def xOld (v : XS) (k : Int32) : Bool := !decide (xA v k.toNatClampNeg = -1)
def xSh (v : XS) (k : Int32) : Bool := !decide (xC v 0 k.toNatClampNeg = -1)
def xSeen (v : XS) (k : Int32) : Bool := xOld v k && (!decide (xp v = 2) || xSh v k)
def xRow (v : XS) (k : Int32) : Int32 := 1000 * xA v k.toNatClampNeg + xB v k.toNatClampNeg
def xPut (v : XS) (k a b : Int32) : XS := xUB (xUA v (upd (xA v) k.toNatClampNeg a)) (upd (xB (xUA v (upd (xA v) k.toNatClampNeg a))) k.toNatClampNeg b)
def xDig (b : Int32) : Int32 := if 10 ≤ b then (if 100 ≤ b then 3 else 2) else 1
def xMid (v : XS) (a b : Int32) : Int32 := if xt v = 0 then a - a / 100 * 100 else if xt v = 1 then b else b * xq v
def xLast (v : XS) (b : Int32) : Int32 := if xt v = 0 then b else if xt v = 1 then 0 else xDig b
def xAlt (v : XS) (a b c : Int32) : Int32 := if c = 0 then (if xt v = 0 then a / 100 else a) else if c = 1 then xMid v a b else xLast v b
def xBro (v : XS) (k c : Int32) : Int32 := if xOld v k && xFits v (xB v k.toNatClampNeg) then xAlt v (xA v k.toNatClampNeg) (xB v k.toNatClampNeg) c else -1
def xBr (v : XS) (k c : Int32) (j : Nat) : XS := xUC v j (upd (xC v j) k.toNatClampNeg (xBro v k c))
def xBr3 (v : XS) (k : Int32) : XS := xBr (xBr (xBr v k 0 0) k 1 1) k 2 2
def xBring (v : XS) (k : Int32) : XS := xUR (xBr3 v k) (upd (xR (xBr3 v k)) k.toNatClampNeg (vp_nar .boolean (b2i (xOld (xBr3 v k) k && !xFits (xBr3 v k) (xB (xBr3 v k) k.toNatClampNeg)))))
def xBeh (v : XS) (k : Int32) : Bool := !decide (xC v 0 k.toNatClampNeg = xBro v k 0) || (!decide (xC v 1 k.toNatClampNeg = xBro v k 1) || !decide (xC v 2 k.toNatClampNeg = xBro v k 2))
def xNote (v : XS) (k : Int32) : XS := if 1024 ≤ xc v then v else xUc (xUN v (upd (xN v) (xc v).toNatClampNeg k)) (xc (xUN v (upd (xN v) (xc v).toNatClampNeg k)) + 1)
def xFollow (v : XS) (k : Int32) : XS := if xp v = 1 then xNote v k else if xp v = 2 then xBring v k else v
/-- sums over keys -/
def kSum (f : Nat → Int32) : Nat → Int32
  | 0 => 0
  | n + 1 => kSum f n + f n
def xRows (v : XS) : Nat → Int32 := kSum (fun i => b2i (xSeen v (nI i)))
def xShRows (v : XS) : Nat → Int32 := kSum (fun i => b2i (xSh v (nI i)))
def xBehinds (v : XS) : Nat → Int32 := kSum (fun i => b2i (xBeh v (nI i)))
def xSum (v : XS) (c : Int32) : Nat → Int32 := kSum (fun i => if xSh v (nI i) then xC v c.toNatClampNeg (nI i).toNatClampNeg else 0)
def xSumAt (v : XS) (c : Int32) : Nat → Int32 := kSum (fun i => if xBro v (nI i) c = -1 then 0 else xBro v (nI i) c)
theorem xRows_t {v : XS} {i : Nat} (h : xSeen v (nI i) = true) : xRows v (i + 1) = xRows v i + 1 := by simp [xRows, kSum, h, b2i]
theorem xRows_f {v : XS} {i : Nat} (h : xSeen v (nI i) = false) : xRows v (i + 1) = xRows v i := by simp [xRows, kSum, h, b2i]
theorem xShRows_t {v : XS} {i : Nat} (h : xSh v (nI i) = true) : xShRows v (i + 1) = xShRows v i + 1 := by simp [xShRows, kSum, h, b2i]
theorem xShRows_f {v : XS} {i : Nat} (h : xSh v (nI i) = false) : xShRows v (i + 1) = xShRows v i := by simp [xShRows, kSum, h, b2i]
theorem xBehinds_t {v : XS} {i : Nat} (h : xBeh v (nI i) = true) : xBehinds v (i + 1) = xBehinds v i + 1 := by simp [xBehinds, kSum, h, b2i]
theorem xBehinds_f {v : XS} {i : Nat} (h : xBeh v (nI i) = false) : xBehinds v (i + 1) = xBehinds v i := by simp [xBehinds, kSum, h, b2i]
theorem xSum_t {v : XS} {c : Int32} {i : Nat} (h : xSh v (nI i) = true) : xSum v c (i + 1) = xSum v c i + xC v c.toNatClampNeg (nI i).toNatClampNeg := by simp [xSum, kSum, h]
theorem xSum_f {v : XS} {c : Int32} {i : Nat} (h : xSh v (nI i) = false) : xSum v c (i + 1) = xSum v c i := by simp [xSum, kSum, h]
theorem xSumAt_t {v : XS} {c : Int32} {i : Nat} (h : xBro v (nI i) c = -1) : xSumAt v c (i + 1) = xSumAt v c i := by simp [xSumAt, kSum, h]
theorem xSumAt_f {v : XS} {c : Int32} {i : Nat} (h : ¬ xBro v (nI i) c = -1) : xSumAt v c (i + 1) = xSumAt v c i + xBro v (nI i) c := by simp [xSumAt, kSum, h]
/-- rows that are not in the shadow go -/
def xGo (v : XS) (i : Nat) : Bool := xOld v (nI i) && !xSh v (nI i)
def xRem (v : XS) : Nat → XS
  | 0 => v
  | n + 1 => if xGo (xRem v n) n then xPut (xRem v n) (nI n) (-1) (-1) else xRem v n
def xRemN (v : XS) : Nat → Int32
  | 0 => 0
  | n + 1 => xRemN v n + b2i (xGo (xRem v n) n)
def xCopyE (v : XS) : Int32 := if (40 : Int32) < xm v + xk v then 40 else xm v + xk v
def xCopyL (v : XS) (mk : Nat) : Nat → XS
  | 0 => v
  | n + 1 => xBring (xCopyL v mk n) (nI (mk + n))
def xCopy (v : XS) (mk n : Nat) : XS := xUm (xCopyL v mk n) (xCopyE v)
def xPlayL (v : XS) : Nat → XS
  | 0 => v
  | n + 1 => xBring (xPlayL v n) (xN (xPlayL v n) (nI n).toNatClampNeg)
def xPlayC (v : XS) (c : Nat) : XS := xUc (xPlayL v c) (xc (xPlayL v c) - nI c)
def xPlay (v : XS) (c : Nat) : XS := xUN (xPlayC v c) (va_cpy (xN (xPlayC v c)) (xN (xPlayC v c)) (nI c).toNatClampNeg (0 : Int32).toNatClampNeg (xc (xPlayC v c)).toNatClampNeg)
def kFill (n : Nat) (y : Int32) (f : Nat → Int32) : Nat → Int32 := fun j => if j < n then y else f j
def xClr (v : XS) : Nat → XS
  | 0 => v
  | n + 1 => xUC (xClr v n) (nI n).toNatClampNeg (kFill 40 (-1) (xC (xClr v n) (nI n).toNatClampNeg))
def xUnr (v : XS) : Nat → XS
  | 0 => v
  | n + 1 => xUR (xUnr v n) (upd (xR (xUnr v n)) (nI n).toNatClampNeg (vp_nar .boolean 0))
def xEnd (v : XS) : XS := xUp (xUc (xUnr (xClr v 3) 40) 0) 0
theorem xPlayL_N (v : XS) (n : Nat) : xN (xPlayL v n) = xN v := by
  induction n with
  | zero => rfl
  | succ n ih => exact ih
theorem xPlayL_c (v : XS) (n : Nat) : xc (xPlayL v n) = xc v := by
  induction n with
  | zero => rfl
  | succ n ih => exact ih
theorem xWithin_in {x : Int32} {n : Nat} {N : Int32} (hN : N.toInt = n) (h : xWithin x 0 N = true) : vp_in x (n + 1) := by
  simp only [xWithin, Bool.and_eq_true, Bool.not_eq_true', decide_eq_false_iff_not] at h
  rw [vp_in_iff]
  rw [Int32.lt_iff_toInt_lt, Int32.lt_iff_toInt_lt, hN] at h
  have h0 : (0 : Int32).toInt = 0 := rfl
  omega
theorem xKey_in {x : Int32} (h : xWithin x 0 39 = true) : vp_in x 40 := xWithin_in (n := 39) rfl h
theorem xCol_in {x : Int32} (h : xWithin x 0 2 = true) : vp_in x 3 := xWithin_in (n := 2) rfl h
section KMM
variable {p : Program} {l : Launch} {e : Env} {R : Room} {s : State} {m : MethodId} {args : Array Value} {below : List Frame} {meth : Method} {c : Code} {H : Heap} {locs : List Loc} {cells slots : Nat} {Q : State → Prop}
variable {cc : ByteArray} {pc : Nat} {ls : Array Slot} {rest : List Value} {D : va_G} {ca : Nat → ClassId} {A : Nat → Prop} {ad : Nat → Nat} {own : String} {index : Nat} {x y : Int32}
theorem k_mmin (cx : KC p c cc s args m own D ca) (hls : c.maxLocals = ls.size) (hlink : (Cond.methodLink own index (⟨"java/lang/Math", "min", "(II)I"⟩ : MethodName)).before args s = true) (hframes : 1 ≤ R.frames) (hlocals : (rest.map fun v => v.category).sum + 13 ≤ R.locals) (hc : cells ≤ R.cells) (hs : slots ≤ R.slots) (hdg : decode cc pc = .ok (.invokestatic index, 3))
    (kk : W p l e R s m args below meth c H locs cells slots Q (F0 m (pc + 3) ls (.int (if y < x then y else x) :: rest))) : W p l e R s m args below meth c H locs cells slots Q (F0 m pc ls (.int y :: .int x :: rest)) :=
  va_mmin cx.1 cx.2.1 hls cx.2.2.1 hlink (cx.2.2.2.1 _ wk_313) (cx.2.2.2.1 _ wk_10) (cx.2.2.2.1 _ wk_314) hframes hlocals hc hs hdg kk
theorem k_mmax (cx : KC p c cc s args m own D ca) (hls : c.maxLocals = ls.size) (hlink : (Cond.methodLink own index (⟨"java/lang/Math", "max", "(II)I"⟩ : MethodName)).before args s = true) (hframes : 1 ≤ R.frames) (hlocals : (rest.map fun v => v.category).sum + 13 ≤ R.locals) (hc : cells ≤ R.cells) (hs : slots ≤ R.slots) (hdg : decode cc pc = .ok (.invokestatic index, 3))
    (kk : W p l e R s m args below meth c H locs cells slots Q (F0 m (pc + 3) ls (.int (if x < y then y else x) :: rest))) : W p l e R s m args below meth c H locs cells slots Q (F0 m pc ls (.int y :: .int x :: rest)) :=
  va_mmax cx.1 cx.2.1 hls cx.2.2.1 hlink (cx.2.2.2.1 _ wk_316) (cx.2.2.2.1 _ wk_10) (cx.2.2.2.1 _ wk_317) hframes hlocals hc hs hdg kk
end KMM
theorem kin_of {x N : Int32} {n : Nat} (h0 : ¬ x < 0) (h : ¬ N ≤ x) (hN : N.toInt = n := by rfl) : vp_in x n := by
  rw [vp_in_iff]
  rw [Int32.lt_iff_toInt_lt] at h0
  rw [Int32.le_iff_toInt_le, hN] at h
  have e0 : (0 : Int32).toInt = 0 := rfl
  omega

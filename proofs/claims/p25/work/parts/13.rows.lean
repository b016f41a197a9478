/-! MINE: rows of branches on an answer of truth, of loops, of columns. -/
def b2i (b : Bool) : Int32 := if b then 1 else 0
theorem b2i_t : b2i true = 1 := rfl
theorem b2i_f : b2i false = 0 := rfl
theorem b2i_nar (b : Bool) : narrow .boolean (.int (b2i b)) = .int (b2i b) := by cases b <;> rfl
theorem b2i_vp (b : Bool) : vp_nar .boolean (b2i b) = b2i b := by cases b <;> rfl
abbrev KR (f n : Nat) : Room := { frames := f, cells := 0, slots := 0, locals := n }
abbrev KR1 (f n : Nat) : Room := { frames := f, cells := 1, slots := 6, locals := n }
section KB
variable {p : Program} {l : Launch} {e : Env} {R : Room} {s : State} {m : MethodId} {args : Array Value} {below : List Frame} {meth : Method} {c : Code} {H : Heap} {locs : List Loc} {cells slots : Nat} {Q : State → Prop}
variable {cc : ByteArray} {pc : Nat} {ls : Array Slot} {rest : List Value} {D : va_G} {ca : Nat → ClassId} {A : Nat → Prop} {ad : Nat → Nat} {own : String}
theorem kb_eq (cx : KC p c cc s args m own D ca) {b : Bool} {off : Int} {tgt : Nat} (hdg : decode cc pc = .ok (.ifCond .eq off, 3)) (ht : (pc : Int) + off = (tgt : Int)) (kt : b = false → W p l e R s m args below meth c H locs cells slots Q (F0 m tgt ls rest)) (kf : b = true → W p l e R s m args below meth c H locs cells slots Q (F0 m (pc + 3) ls rest)) : W p l e R s m args below meth c H locs cells slots Q (F0 m pc ls (.int (b2i b) :: rest)) := by
  refine lv_if_eq cx.1 cx.2.1 hdg ht (fun h => kt ?_) (fun h => kf ?_)
  · cases b
    · rfl
    · exact absurd h (by decide)
  · cases b
    · exact absurd rfl h
    · rfl
theorem kb_ne (cx : KC p c cc s args m own D ca) {b : Bool} {off : Int} {tgt : Nat} (hdg : decode cc pc = .ok (.ifCond .ne off, 3)) (ht : (pc : Int) + off = (tgt : Int)) (kt : b = true → W p l e R s m args below meth c H locs cells slots Q (F0 m tgt ls rest)) (kf : b = false → W p l e R s m args below meth c H locs cells slots Q (F0 m (pc + 3) ls rest)) : W p l e R s m args below meth c H locs cells slots Q (F0 m pc ls (.int (b2i b) :: rest)) := by
  refine lv_if_ne cx.1 cx.2.1 hdg ht (fun h => kt ?_) (fun h => kf ?_)
  · cases b
    · exact absurd rfl h
    · rfl
  · cases b
    · rfl
    · exact absurd h (by decide)
/-- a joined value, by its name -/
theorem k_top {x y : Int32} {pc1 : Nat} (h : x = y) (k : W p l e R s m args below meth c H locs cells slots Q (F0 m pc1 ls (.int y :: rest))) : W p l e R s m args below meth c H locs cells slots Q (F0 m pc1 ls (.int x :: rest)) := by rw [h]; exact k
/-- two roads that meet at pc2 -/
theorem k_join {pc1 : Nat} {st1 : List Value} (pc2 : Nat) (w2 : va_W) (st2 : List Value) (hj : ∀ (H : Heap) (locs : List Loc), KI D A w2 s.heap H locs → W p l e R s m args below meth c H locs cells slots Q (F0 m pc2 ls st2))
    (k : (∀ (H : Heap) (locs : List Loc), KI D A w2 s.heap H locs → W p l e R s m args below meth c H locs cells slots Q (F0 m pc2 ls st2)) → W p l e R s m args below meth c H locs cells slots Q (F0 m pc1 ls st1)) : W p l e R s m args below meth c H locs cells slots Q (F0 m pc1 ls st1) := k hj
/-- a loop of N turns -/
theorem k_loop (N : Nat) {ml head : Nat} (wF : Nat → va_W) (lF : Nat → List (Nat × Value)) (hI : KI D A (wF 0) s.heap H locs) (hl : lv_has ls ml (lF 0))
    (hx : ∀ H locs ls, KI D A (wF N) s.heap H locs → lv_has ls ml (lF N) → W p l e R s m args below meth c H locs cells slots Q (F0 m head ls rest))
    (hs : ∀ i, i < N → ∀ H locs ls, KI D A (wF i) s.heap H locs → lv_has ls ml (lF i) → (∀ H locs ls, KI D A (wF (i + 1)) s.heap H locs → lv_has ls ml (lF (i + 1)) → W p l e R s m args below meth c H locs cells slots Q (F0 m head ls rest)) → W p l e R s m args below meth c H locs cells slots Q (F0 m head ls rest)) :
    W p l e R s m args below meth c H locs cells slots Q (F0 m head ls rest) := by
  have go : ∀ (n i : Nat), i + n = N → ∀ H locs ls, KI D A (wF i) s.heap H locs → lv_has ls ml (lF i) → W p l e R s m args below meth c H locs cells slots Q (F0 m head ls rest) := by
    intro n
    induction n with
    | zero =>
      intro i hi H locs ls hI hl
      have : i = N := by omega
      subst this
      exact hx H locs ls hI hl
    | succ n ih =>
      intro i hi H locs ls hI hl
      exact hs i (by omega) H locs ls hI hl (fun H locs ls hI hl => ih (i + 1) (by omega) H locs ls hI hl)
  exact go N 0 (by omega) H locs ls hI hl
/-- the column c of the shadow, as the cells have it -/
def xC (v : XS) (c : Nat) : Nat → Int32 := match c with
  | 0 => xC0 v
  | 1 => xC1 v
  | _ => xC2 v
def xUC (v : XS) (c : Nat) (f : Nat → Int32) : XS := match c with
  | 0 => xUC0 v f
  | 1 => xUC1 v f
  | _ => xUC2 v f
theorem k3 {c0 : Int32} (h : vp_in c0 3) : c0.toNatClampNeg = 0 ∨ c0.toNatClampNeg = 1 ∨ c0.toNatClampNeg = 2 := by
  have hlt : c0.toNatClampNeg < 3 := Nat.not_le.mp fun q => h (Or.inr q)
  omega
theorem xa_col {v : XS} (cx : KC p c cc s args m RX0 D ca) (hI : KI D A (xw ad ca v) s.heap H locs) {c0 i : Int32} (hc : vp_in c0 3) {j : Nat} (hj : c0.toNatClampNeg = j) (hin : vp_in i 40) (hdg : decode cc pc = .ok (.iaload, 1)) (k : W p l e R s m args below meth c H locs cells slots Q (F0 m (pc + 1) ls (.int (xC v j i.toNatClampNeg) :: rest))) : W p l e R s m args below meth c H locs cells slots Q (F0 m pc ls (.int i :: .ref (ad (4 + c0.toNatClampNeg)) :: rest)) := by
  subst hj
  rcases k3 hc with h | h | h <;> rw [h] at k ⊢
  · exact xa_C0 cx hI hin hdg k
  · exact xa_C1 cx hI hin hdg k
  · exact xa_C2 cx hI hin hdg k
theorem xs_col {v : XS} (cx : KC p c cc s args m RX0 D ca) (hI : KI D A (xw ad ca v) s.heap H locs) {c0 i y : Int32} (hc : vp_in c0 3) {j : Nat} (hj : c0.toNatClampNeg = j) (hin : vp_in i 40) (hdg : decode cc pc = .ok (.iastore, 1)) (k : ∀ (H : Heap) (locs : List Loc), KI D A (xw ad ca (xUC v j (upd (xC v j) i.toNatClampNeg y))) s.heap H locs → W p l e R s m args below meth c H locs cells slots Q (F0 m (pc + 1) ls rest)) : W p l e R s m args below meth c H locs cells slots Q (F0 m pc ls (.int y :: .int i :: .ref (ad (4 + c0.toNatClampNeg)) :: rest)) := by
  subst hj
  rcases k3 hc with h | h | h <;> rw [h] at k ⊢
  · exact xs_C0 cx hI hin hdg k
  · exact xs_C1 cx hI hin hdg k
  · exact xs_C2 cx hI hin hdg k
/-- how many columns there are -/
theorem xl_cols {v : XS} (cx : KC p c cc s args m RX0 D ca) (hI : KI D A (xw ad ca v) s.heap H locs) (hdg : decode cc pc = .ok (.arraylength, 1)) (k : W p l e R s m args below meth c H locs cells slots Q (F0 m (pc + 1) ls (.int 3 :: rest))) : W p l e R s m args below meth c H locs cells slots Q (F0 m pc ls (.ref (ad 3) :: rest)) :=
  va_alen cx.1 cx.2.1 cx.2.2.2.2 hI.1 3 2 rfl rfl rfl hdg k
theorem vp0 {n : Nat} (h : 0 < n) (hn : n < 2 ^ 31) : vp_in 0 n := vp_in_nI h hn
theorem vp1 {n : Nat} (h : 1 < n) (hn : n < 2 ^ 31) : vp_in 1 n := vp_in_nI h hn
theorem vp2 {n : Nat} (h : 2 < n) (hn : n < 2 ^ 31) : vp_in 2 n := vp_in_nI h hn
end KB

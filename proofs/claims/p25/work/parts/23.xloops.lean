/-! MINE: Arrays.fill, the columns filled, notes moved up. -/
theorem kFill_0 (y : Int32) (f : Nat → Int32) : kFill 0 y f = f := funext fun j => by simp [kFill]
theorem kFill_s {i : Nat} (hi : i < 2 ^ 31) (y : Int32) (f : Nat → Int32) : upd (kFill i y f) (nI i).toNatClampNeg y = kFill (i + 1) y f := by
  rw [nI_clamp hi]
  funext j
  by_cases h : j = i
  · subst h
    rw [pk_us]
    simp [kFill]
  · rw [pk_un h]
    simp only [kFill]
    by_cases h2 : j < i
    · rw [if_pos h2, if_pos (by omega)]
    · rw [if_neg h2, if_neg (by omega)]
set_option maxHeartbeats 4000000 in
set_option maxRecDepth 100000 in
theorem kJ7_fill (l : Launch) (D : va_G) (ca : Nat → ClassId) (a n : Nat) (hn : n < 2 ^ 31) (f : Nat → Int32) (y : Int32) : CM l yJ7_fill_53178 cJ7_fill_53178 4 none (KR 0 0) D ca [(a, .inl (ca 0, n, .inl f))] [.ref a, .int y] none [(a, .inl (ca 0, n, .inl (kFill n y f)))] := by
  refine CM.of (by decide) (Nat.le_of_ble_eq_true rfl) ?_
  intro p e s m below meth c A ls cx hml hr hlk hI hl
  have hl : lv_has ls 4 [(0, .ref a), (1, .int y)] := hl
  refine lv_iconst (v := 0) cx.1 cx.2.1 dJ7_fill_53178_0 (by decide) ?_
  refine lv_istore_n (lv' := [(2, .int 0), (0, .ref a), (1, .int y)]) cx.1 cx.2.1 dJ7_fill_53178_1 rfl hl (by decide) rfl (fun ls hl => ?_)
  refine lv_aload_n cx.1 cx.2.1 dJ7_fill_53178_2 rfl (lv_at hl 1 rfl) ?_
  refine va_alen cx.1 cx.2.1 cx.2.2.2.2 hI.1 0 0 rfl rfl (v := nI n) rfl dJ7_fill_53178_3 ?_
  refine lv_istore_n (lv' := [(3, .int (nI n)), (2, .int 0), (0, .ref a), (1, .int y)]) cx.1 cx.2.1 dJ7_fill_53178_4 rfl hl (by decide) rfl (fun ls hl => ?_)
  refine k_loop n (fun i => [(a, .inl (ca 0, n, .inl (kFill i y f)))]) (fun i => [(2, .int (nI i)), (3, .int (nI n)), (0, .ref a), (1, .int y)]) (by rw [kFill_0]; exact hI) (lv_sub hl [1, 0, 2, 3] rfl) (fun H locs ls hI hl => ?_) (fun i hi H locs ls hI hl ih => ?_)
  · refine lv_iload_n cx.1 cx.2.1 dJ7_fill_53178_5 rfl (lv_at hl 0 rfl) ?_
    refine lv_iload_n cx.1 cx.2.1 dJ7_fill_53178_6 rfl (lv_at hl 1 rfl) ?_
    refine lv_icmp_ge (tgt := 20) cx.1 cx.2.1 dJ7_fill_53178_7 (by decide) (fun _ => ?_) (fun h9 => absurd (Int32.le_refl _) h9)
    exact ke_v cx hr hlk hI (Nat.zero_le _) (Nat.zero_le _) dJ7_fill_53178_20 rfl rfl
  · refine lv_iload_n cx.1 cx.2.1 dJ7_fill_53178_5 rfl (lv_at hl 0 rfl) ?_
    refine lv_iload_n cx.1 cx.2.1 dJ7_fill_53178_6 rfl (lv_at hl 1 rfl) ?_
    refine lv_icmp_ge (tgt := 20) cx.1 cx.2.1 dJ7_fill_53178_7 (by decide) (fun h9 => absurd h9 (nI_ge hi hn)) (fun _ => ?_)
    refine lv_aload_n cx.1 cx.2.1 dJ7_fill_53178_10 rfl (lv_at hl 2 rfl) ?_
    refine lv_iload_n cx.1 cx.2.1 dJ7_fill_53178_11 rfl (lv_at hl 0 rfl) ?_
    refine lv_iload_n cx.1 cx.2.1 dJ7_fill_53178_12 rfl (lv_at hl 3 rfl) ?_
    refine va_iast cx.1 cx.2.1 cx.2.2.2.2 hI.1 hI.2.1 hI.2.2.1 0 0 rfl rfl (vp_in_nI hi hn) dJ7_fill_53178_13 (fun H1 locs1 hP hD hS => ?_)
    rw [kFill_s (Nat.lt_trans hi hn)] at hP hD
    have hI : KI D A [(a, .inl (ca 0, n, .inl (kFill (i + 1) y f)))] s.heap H1 locs1 := ⟨hP, hD, hS, hI.2.2.2⟩
    refine lv_iinc (v := nI (i + 1)) (lv' := [(2, .int (nI (i + 1))), (3, .int (nI n)), (0, .ref a), (1, .int y)]) cx.1 cx.2.1 dJ7_fill_53178_14 hl (k := 0) rfl (nI_1 i) (by decide) rfl (fun ls hl => ?_)
    refine lv_goto (tgt := 5) cx.1 cx.2.1 dJ7_fill_53178_17 (by decide) ?_
    exact ih _ _ _ hI hl
section KFILL
variable {p : Program} {l : Launch} {e : Env} {R : Room} {s : State} {m : MethodId} {args : Array Value} {below : List Frame} {meth : Method} {c : Code} {H : Heap} {locs : List Loc} {cells slots : Nat} {Q : State → Prop}
variable {cc : ByteArray} {pc : Nat} {ls : Array Slot} {rest : List Value} {D : va_G} {ca : Nat → ClassId} {A : Nat → Prop} {ad : Nat → Nat} {own : String} {index : Nat}
theorem k_fillAt (pre post : va_W) {W0 W1 : va_W} {a n : Nat} {f : Nat → Int32} {y : Int32} (hn : n < 2 ^ 31) (cx : KC p c cc s args m own D ca) (hls : ls.size = c.maxLocals) (hI : KI D A W0 s.heap H locs) (e0 : W0 = pre ++ ([(a, .inl (ca 0, n, .inl f))] ++ post)) (e1 : W1 = pre ++ ([(a, .inl (ca 0, n, .inl (kFill n y f)))] ++ post))
    (h1 : Cond.methodLink own index yJ7_fill_53178 ∈ WL) (hR : 1 ≤ R.frames ∧ 23 ≤ R.locals) (hW : (rest.map fun v => v.category).sum ≤ 8) (hdg : decode cc pc = .ok (.invokestatic index, 3)) (hf : cells ≤ R.cells ∧ slots ≤ R.slots)
    (kk : ∀ H1 locs1, KI D A W1 s.heap H1 locs1 → W p l e R s m args below meth c H1 locs1 cells slots Q (F0 m (pc + 3) ls rest)) : W p l e R s m args below meth c H locs cells slots Q (F0 m pc ls (.int y :: .ref a :: rest)) :=
  k_callS 2 pre post cx hls (kJ7_fill l D ca a n hn f y) hI e0 e1 rfl wk_27 h1 wk_26 wk_2 ⟨by decide, by decide, by decide +kernel⟩ rfl ⟨rfl, rfl⟩ ⟨hR.1, hR.2⟩ hW hdg hf rfl kk
theorem k_fillcol {v : XS} (cx : KC p c cc s args m own D ca) (hls : ls.size = c.maxLocals) (hI : KI D A (xw ad ca v) s.heap H locs) {c0 y : Int32} (hc : vp_in c0 3)
    (h1 : Cond.methodLink own index yJ7_fill_53178 ∈ WL) (hR : 1 ≤ R.frames ∧ 23 ≤ R.locals) (hW : (rest.map fun v => v.category).sum ≤ 8) (hdg : decode cc pc = .ok (.invokestatic index, 3)) (hf : cells ≤ R.cells ∧ slots ≤ R.slots)
    (kk : ∀ H1 locs1, KI D A (xw ad ca (xUC v c0.toNatClampNeg (kFill 40 y (xC v c0.toNatClampNeg)))) s.heap H1 locs1 → W p l e R s m args below meth c H1 locs1 cells slots Q (F0 m (pc + 3) ls rest)) : W p l e R s m args below meth c H locs cells slots Q (F0 m pc ls (.int y :: .ref (ad (4 + c0.toNatClampNeg)) :: rest)) := by
  rcases k3 hc with h | h | h <;> rw [h] at kk ⊢
  · exact k_fillAt ((xw ad ca v).take 4) ((xw ad ca v).drop 5) (by decide) cx hls hI rfl rfl h1 hR hW hdg hf kk
  · exact k_fillAt ((xw ad ca v).take 5) ((xw ad ca v).drop 6) (by decide) cx hls hI rfl rfl h1 hR hW hdg hf kk
  · exact k_fillAt ((xw ad ca v).take 6) ((xw ad ca v).drop 7) (by decide) cx hls hI rfl rfl h1 hR hW hdg hf kk
theorem k_copyN {v : XS} (cx : KC p c cc s args m own D ca) (hls : ls.size = c.maxLocals) (hI : KI D A (xw ad ca v) s.heap H locs) (h0 : Cond.methodLink own index arraycopyName ∈ WL) {sp dp n : Int32} (h1 : ¬ sp < 0) (h2 : ¬ dp < 0) (h3 : ¬ n < 0) (h4 : sp.toNatClampNeg + n.toNatClampNeg ≤ 1024) (h5 : dp.toNatClampNeg + n.toNatClampNeg ≤ 1024)
    (hframes : 1 ≤ R.frames) (hlocals : (rest.map fun v => v.category).sum + (nativeFrameWords "java/lang/System" "arraycopy" 5 + 11) ≤ R.locals) (hdg : decode cc pc = .ok (.invokestatic index, 3))
    (kk : ∀ H1 locs1, KI D A (xw ad ca (xUN v (va_cpy (xN v) (xN v) sp.toNatClampNeg dp.toNatClampNeg n.toNatClampNeg))) s.heap H1 locs1 → W p l e R s m args below meth c H1 locs1 cells slots Q (F0 m (pc + 3) ls rest)) : W p l e R s m args below meth c H locs cells slots Q (F0 m pc ls (.int n :: .int dp :: .ref (ad 8) :: .int sp :: .ref (ad 8) :: rest)) :=
  va_copyi cx.1 cx.2.1 hls.symm cx.2.2.1 (cx.2.2.2.1 _ h0) (cx.2.2.2.1 _ wk_342) (cx.2.2.2.1 _ wk_341) (cx.2.2.2.1 _ wk_11) cx.2.2.2.2 hI.1 hI.2.1 hI.2.2.1 8 8 0 0 rfl rfl rfl rfl rfl h1 h2 h3 h4 h5 (fun _ _ => rfl) hframes hlocals hdg (fun H1 locs1 hP hD hS => kk H1 locs1 ⟨hP, hD, hS, hI.2.2.2⟩)
end KFILL
def kMin (a b : Int32) : Int32 := if b < a then b else a
def kMax (a b : Int32) : Int32 := if a < b then b else a
theorem kMin_in {a b : Int32} {n : Nat} (ha : vp_in a n) (hb : vp_in b n) : vp_in (kMin a b) n := by unfold kMin; split <;> assumption
theorem kMax_in {a b : Int32} {n : Nat} (ha : vp_in a n) (hb : vp_in b n) : vp_in (kMax a b) n := by unfold kMax; split <;> assumption
theorem xFollow_c {v : XS} {k : Int32} (h0 : ¬ xc v < 0) : ¬ xc (xFollow v k) < 0 := by
  unfold xFollow
  by_cases h1 : xp v = 1
  · rw [if_pos h1]
    unfold xNote
    by_cases h2 : (1024 : Int32) ≤ xc v
    · rw [if_pos h2]; exact h0
    · rw [if_neg h2]
      show ¬ xc v + 1 < 0
      obtain ⟨j, hj, e⟩ := nI_of h0
      rw [e] at h2 ⊢
      have : j < 1024 := Nat.not_le.mp fun q => h2 (nI_le q hj)
      rw [nI_1]
      exact nI_pos (by omega)
  · rw [if_neg h1]
    by_cases h2 : xp v = 2
    · rw [if_pos h2]; exact h0
    · rw [if_neg h2]; exact h0
/-- what is thrown, by number -/
def xfInsert (v : XS) (key a b : Int32) : Nat := if !xWithin key 0 39 then 1 else if !xCbw v a b then 2 else if xSeen v key then 3 else 0
def xfUpdate (v : XS) (key a b : Int32) : Nat := if !xWithin key 0 39 then 1 else if !xCbw v a b then 2 else if !xSeen v key then 3 else 0
def xfDelete (v : XS) (key : Int32) : Nat := if !xWithin key 0 39 then 1 else if !xSeen v key then 2 else 0
def xfRekey (v : XS) (key to : Int32) : Nat := if !(xWithin key 0 39 && xWithin to 0 39) then 1 else if key = to then 2 else if !xSeen v key then 3 else if xSeen v to then 4 else 0
def xfStart (v : XS) (al pa : Int32) : Nat := if !(xWithin al 0 2 && xWithin pa 0 999) then 1 else if xp v = 0 then 0 else 2
def xfPace (ch lag : Int32) : Nat := if xWithin ch 1 40 && xWithin lag 0 100 then 0 else 1
def xfTick (v : XS) (lag : Int32) : Nat := if !xWithin lag 0 1000 then 1 else if xp v = 1 then 0 else 2
def xfCut (v : XS) (most : Int32) : Nat := if !xWithin most 0 1000 then 1 else if !decide (xp v = 1) || (decide (xm v < 40) || !decide (xc v ≤ most)) then 2 else 0
def xfUndo (v : XS) : Nat := if xp v = 2 then 0 else 1
def xfGive (v : XS) : Nat := if xp v = 1 then 0 else 1
def xfKey (key : Int32) : Nat := if xWithin key 0 39 then 0 else 1
def xfCol (col : Int32) : Nat := if xWithin col 0 2 then 0 else 1
def xfShadow (key col : Int32) : Nat := if xWithin key 0 39 && xWithin col 0 2 then 0 else 1
def xRekey (v : XS) (key to : Int32) : XS := xFollow (xFollow (xPut (xPut v to (xA v key.toNatClampNeg) (xB v key.toNatClampNeg)) key (-1) (-1)) (kMin key to)) (kMax key to)
def xStart (v : XS) (al pa : Int32) : XS := xUp (xUm (xUq (xUt v al) pa) 0) 1

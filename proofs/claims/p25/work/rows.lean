section
-- ===== PART A: goes FIRST, ahead of the names: the tables' words, and 'selects' of the private methods out of them =====
/-- a private method of a class that the tables say can be made, by its rows of tables_1 -/
def lw_okq (q : MethodName × Nat) : Prop := (q.1.cls ≠ "java/lang/invoke/MethodHandle" ∧ q.1.cls ≠ "java/lang/invoke/VarHandle") ∧ Cond.instantiable q.1.cls q.2 ∈ tables_1 ∧ Cond.privateMethod q.1 ∈ tables_1 ∧ Cond.instanceMethod q.1 ∈ tables_1
theorem lw_p0 : lw_okq (⟨"java/lang/Throwable", "fillInStackTrace", "(I)Ljava/lang/Throwable;"⟩, 6) := ⟨⟨by decide +kernel, by decide +kernel⟩, List.mem_of_getElem? (i := 136) (by decide +kernel), List.mem_of_getElem? (i := 134) (by decide +kernel), List.mem_of_getElem? (i := 135) (by decide +kernel)⟩
theorem lw_p1 : lw_okq (⟨"TableChanger", "isInShadow", "(I)Z"⟩, 12) := ⟨⟨by decide +kernel, by decide +kernel⟩, List.mem_of_getElem? (i := 16) (by decide +kernel), List.mem_of_getElem? (i := 173) (by decide +kernel), List.mem_of_getElem? (i := 174) (by decide +kernel)⟩
theorem lw_p2 : lw_okq (⟨"TableChanger", "isBehind", "(I)Z"⟩, 12) := ⟨⟨by decide +kernel, by decide +kernel⟩, List.mem_of_getElem? (i := 16) (by decide +kernel), List.mem_of_getElem? (i := 181) (by decide +kernel), List.mem_of_getElem? (i := 182) (by decide +kernel)⟩
theorem lw_p3 : lw_okq (⟨"TableChanger", "broughtColumn", "(II)I"⟩, 12) := ⟨⟨by decide +kernel, by decide +kernel⟩, List.mem_of_getElem? (i := 16) (by decide +kernel), List.mem_of_getElem? (i := 185) (by decide +kernel), List.mem_of_getElem? (i := 186) (by decide +kernel)⟩
theorem lw_p4 : lw_okq (⟨"TableChanger", "isInOld", "(I)Z"⟩, 12) := ⟨⟨by decide +kernel, by decide +kernel⟩, List.mem_of_getElem? (i := 16) (by decide +kernel), List.mem_of_getElem? (i := 189) (by decide +kernel), List.mem_of_getElem? (i := 190) (by decide +kernel)⟩
theorem lw_p5 : lw_okq (⟨"TableChanger", "fits", "(I)Z"⟩, 12) := ⟨⟨by decide +kernel, by decide +kernel⟩, List.mem_of_getElem? (i := 16) (by decide +kernel), List.mem_of_getElem? (i := 193) (by decide +kernel), List.mem_of_getElem? (i := 194) (by decide +kernel)⟩
theorem lw_p6 : lw_okq (⟨"TableChanger", "alteredColumn", "(III)I"⟩, 12) := ⟨⟨by decide +kernel, by decide +kernel⟩, List.mem_of_getElem? (i := 16) (by decide +kernel), List.mem_of_getElem? (i := 197) (by decide +kernel), List.mem_of_getElem? (i := 198) (by decide +kernel)⟩
theorem lw_p7 : lw_okq (⟨"TableChanger", "alteredMiddle", "(II)I"⟩, 12) := ⟨⟨by decide +kernel, by decide +kernel⟩, List.mem_of_getElem? (i := 16) (by decide +kernel), List.mem_of_getElem? (i := 201) (by decide +kernel), List.mem_of_getElem? (i := 202) (by decide +kernel)⟩
theorem lw_p8 : lw_okq (⟨"TableChanger", "alteredLast", "(I)I"⟩, 12) := ⟨⟨by decide +kernel, by decide +kernel⟩, List.mem_of_getElem? (i := 16) (by decide +kernel), List.mem_of_getElem? (i := 205) (by decide +kernel), List.mem_of_getElem? (i := 206) (by decide +kernel)⟩
theorem lw_p9 : lw_okq (⟨"TableChanger", "canBeWritten", "(II)Z"⟩, 12) := ⟨⟨by decide +kernel, by decide +kernel⟩, List.mem_of_getElem? (i := 16) (by decide +kernel), List.mem_of_getElem? (i := 226) (by decide +kernel), List.mem_of_getElem? (i := 227) (by decide +kernel)⟩
theorem lw_p10 : lw_okq (⟨"TableChanger", "isSeen", "(I)Z"⟩, 12) := ⟨⟨by decide +kernel, by decide +kernel⟩, List.mem_of_getElem? (i := 16) (by decide +kernel), List.mem_of_getElem? (i := 246) (by decide +kernel), List.mem_of_getElem? (i := 247) (by decide +kernel)⟩
theorem lw_p11 : lw_okq (⟨"TableChanger", "putRow", "(III)V"⟩, 12) := ⟨⟨by decide +kernel, by decide +kernel⟩, List.mem_of_getElem? (i := 16) (by decide +kernel), List.mem_of_getElem? (i := 266) (by decide +kernel), List.mem_of_getElem? (i := 267) (by decide +kernel)⟩
theorem lw_p12 : lw_okq (⟨"TableChanger", "followWrite", "(I)V"⟩, 12) := ⟨⟨by decide +kernel, by decide +kernel⟩, List.mem_of_getElem? (i := 16) (by decide +kernel), List.mem_of_getElem? (i := 270) (by decide +kernel), List.mem_of_getElem? (i := 271) (by decide +kernel)⟩
theorem lw_p13 : lw_okq (⟨"TableChanger", "noteKey", "(I)V"⟩, 12) := ⟨⟨by decide +kernel, by decide +kernel⟩, List.mem_of_getElem? (i := 16) (by decide +kernel), List.mem_of_getElem? (i := 274) (by decide +kernel), List.mem_of_getElem? (i := 275) (by decide +kernel)⟩
theorem lw_p14 : lw_okq (⟨"TableChanger", "bring", "(I)V"⟩, 12) := ⟨⟨by decide +kernel, by decide +kernel⟩, List.mem_of_getElem? (i := 16) (by decide +kernel), List.mem_of_getElem? (i := 278) (by decide +kernel), List.mem_of_getElem? (i := 279) (by decide +kernel)⟩
theorem lw_p15 : lw_okq (⟨"TableChanger", "removeRow", "(I)V"⟩, 12) := ⟨⟨by decide +kernel, by decide +kernel⟩, List.mem_of_getElem? (i := 16) (by decide +kernel), List.mem_of_getElem? (i := 309) (by decide +kernel), List.mem_of_getElem? (i := 310) (by decide +kernel)⟩
def lw_privs_1 : List (MethodName × Nat) := [(⟨"java/lang/Throwable", "fillInStackTrace", "(I)Ljava/lang/Throwable;"⟩, 6), (⟨"TableChanger", "isInShadow", "(I)Z"⟩, 12), (⟨"TableChanger", "isBehind", "(I)Z"⟩, 12), (⟨"TableChanger", "broughtColumn", "(II)I"⟩, 12), (⟨"TableChanger", "isInOld", "(I)Z"⟩, 12), (⟨"TableChanger", "fits", "(I)Z"⟩, 12), (⟨"TableChanger", "alteredColumn", "(III)I"⟩, 12), (⟨"TableChanger", "alteredMiddle", "(II)I"⟩, 12), (⟨"TableChanger", "alteredLast", "(I)I"⟩, 12), (⟨"TableChanger", "canBeWritten", "(II)Z"⟩, 12), (⟨"TableChanger", "isSeen", "(I)Z"⟩, 12), (⟨"TableChanger", "putRow", "(III)V"⟩, 12), (⟨"TableChanger", "followWrite", "(I)V"⟩, 12), (⟨"TableChanger", "noteKey", "(I)V"⟩, 12), (⟨"TableChanger", "bring", "(I)V"⟩, 12), (⟨"TableChanger", "removeRow", "(I)V"⟩, 12)]
theorem lw_r1 : ∀ q ∈ lw_privs_1, lw_okq q := List.forall_mem_cons.mpr ⟨lw_p0, List.forall_mem_cons.mpr ⟨lw_p1, List.forall_mem_cons.mpr ⟨lw_p2, List.forall_mem_cons.mpr ⟨lw_p3, List.forall_mem_cons.mpr ⟨lw_p4, List.forall_mem_cons.mpr ⟨lw_p5, List.forall_mem_cons.mpr ⟨lw_p6, List.forall_mem_cons.mpr ⟨lw_p7, List.forall_mem_cons.mpr ⟨lw_p8, List.forall_mem_cons.mpr ⟨lw_p9, List.forall_mem_cons.mpr ⟨lw_p10, List.forall_mem_cons.mpr ⟨lw_p11, List.forall_mem_cons.mpr ⟨lw_p12, List.forall_mem_cons.mpr ⟨lw_p13, List.forall_mem_cons.mpr ⟨lw_p14, List.forall_mem_cons.mpr ⟨lw_p15, fun _ h => absurd h List.not_mem_nil⟩⟩⟩⟩⟩⟩⟩⟩⟩⟩⟩⟩⟩⟩⟩⟩
theorem lw_p16 : lw_okq (⟨"TableChanger", "rowAsNumber", "(I)I"⟩, 12) := ⟨⟨by decide +kernel, by decide +kernel⟩, List.mem_of_getElem? (i := 16) (by decide +kernel), List.mem_of_getElem? (i := 323) (by decide +kernel), List.mem_of_getElem? (i := 324) (by decide +kernel)⟩
theorem lw_p17 : lw_okq (⟨"TableChanger", "copyChunk", "()I"⟩, 12) := ⟨⟨by decide +kernel, by decide +kernel⟩, List.mem_of_getElem? (i := 16) (by decide +kernel), List.mem_of_getElem? (i := 333) (by decide +kernel), List.mem_of_getElem? (i := 334) (by decide +kernel)⟩
theorem lw_p18 : lw_okq (⟨"TableChanger", "playNotes", "(I)I"⟩, 12) := ⟨⟨by decide +kernel, by decide +kernel⟩, List.mem_of_getElem? (i := 16) (by decide +kernel), List.mem_of_getElem? (i := 337) (by decide +kernel), List.mem_of_getElem? (i := 338) (by decide +kernel)⟩
theorem lw_p19 : lw_okq (⟨"TableChanger", "removeRowsWithoutShadow", "()I"⟩, 12) := ⟨⟨by decide +kernel, by decide +kernel⟩, List.mem_of_getElem? (i := 16) (by decide +kernel), List.mem_of_getElem? (i := 355) (by decide +kernel), List.mem_of_getElem? (i := 356) (by decide +kernel)⟩
theorem lw_p20 : lw_okq (⟨"TableChanger", "endChange", "()V"⟩, 12) := ⟨⟨by decide +kernel, by decide +kernel⟩, List.mem_of_getElem? (i := 16) (by decide +kernel), List.mem_of_getElem? (i := 359) (by decide +kernel), List.mem_of_getElem? (i := 360) (by decide +kernel)⟩
def lw_privs_2 : List (MethodName × Nat) := [(⟨"TableChanger", "rowAsNumber", "(I)I"⟩, 12), (⟨"TableChanger", "copyChunk", "()I"⟩, 12), (⟨"TableChanger", "playNotes", "(I)I"⟩, 12), (⟨"TableChanger", "removeRowsWithoutShadow", "()I"⟩, 12), (⟨"TableChanger", "endChange", "()V"⟩, 12)]
theorem lw_r2 : ∀ q ∈ lw_privs_2, lw_okq q := List.forall_mem_cons.mpr ⟨lw_p16, List.forall_mem_cons.mpr ⟨lw_p17, List.forall_mem_cons.mpr ⟨lw_p18, List.forall_mem_cons.mpr ⟨lw_p19, List.forall_mem_cons.mpr ⟨lw_p20, fun _ h => absurd h List.not_mem_nil⟩⟩⟩⟩⟩
def lw_privs : List (MethodName × Nat) := lw_privs_1 ++ (lw_privs_2)
def lw_tbl : List Cond := k2_sels lw_privs ++ tables_1
theorem lw_privs_ok : ∀ q ∈ lw_privs, lw_okq q := by
  show ∀ q ∈ lw_privs_1 ++ (lw_privs_2), lw_okq q
  exact List.forall_mem_append.mpr ⟨lw_r1, lw_r2⟩
-- ===== end of PART A; then your names; then what follows =====
end
section
/-! ===== BEGIN words of one list among another's, by their places ===== -/
theorem goodIn_r {big : List Cond} (ws : List Cond) (ps : List Nat) (hp : ws = ps.filterMap (fun i => big[i]?)) (h : ws.all goodWord = true) : GoodIn big ws := by
  intro w hw
  have h1 := List.all_eq_true.mp h w hw
  rw [hp] at hw
  obtain ⟨i, -, hi⟩ := List.mem_filterMap.mp hw
  have hm : w ∈ big := by first | exact List.mem_of_getElem? hi | exact List.getElem?_mem hi
  exact ⟨hm, good_of_word h1⟩
theorem goodIn_app {big a b : List Cond} (ha : GoodIn big a) (hb : GoodIn big b) : GoodIn big (a ++ b) := fun w h => (List.mem_append.mp h).elim (ha w) (hb w)
theorem goodIn_ca {big a b : List Cond} {c : Cond} (ha : GoodIn big (c :: a)) (hb : GoodIn big b) : GoodIn big (c :: (a ++ b)) := fun w h => (List.mem_cons.mp h).elim (fun e => ha w (List.mem_cons.mpr (Or.inl e))) (fun h => (List.mem_append.mp h).elim (fun h => ha w (List.mem_cons.mpr (Or.inr h))) (hb w))
theorem goodIn_sub {big ws : List Cond} (hm : ∀ w ∈ ws, w ∈ big) (h : ws.all goodWord = true) : GoodIn big ws := fun w hw => ⟨hm w hw, good_of_word (List.all_eq_true.mp h w hw)⟩
/-! ===== END ===== -/

/-- (mine: NAMES.whole names va_AOA, no text defines it) the array class over arrays is there -/
def va_AOA (ty : FieldType) (U : State) : Prop := (Cond.arrayOver (.array ty)).before #[] U = true
theorem va_AOA.of {ty : FieldType} {A : Array Value} {U : State} (h : (Cond.arrayOver (.array ty)).before A U = true) : va_AOA ty U := h
theorem va_AOA.use {ty : FieldType} {A : Array Value} {U : State} (h : va_AOA ty U) : (Cond.arrayOver (.array ty)).before A U = true := h
theorem va_AOA.moved {ty : FieldType} {u U : State} (hvm : u.vm.Alike U.vm) (h : va_AOA ty u) : va_AOA ty U := by
  unfold va_AOA Cond.before at *
  exact Stand.arrayOver_alikeB hvm h
/-! ===== BEGIN new T[n][m]: the outer array a place, the inner ones among the pooled ===== -/
/-- f, but v at every address of l -/
def vr_up {α : Type} (f : Nat → α) (l : List Nat) (v : α) : Nat → α := fun a => if a ∈ l then v else f a
theorem vr_up_in {α : Type} {f : Nat → α} {l : List Nat} {v : α} {a : Nat} (h : a ∈ l) : vr_up f l v a = v := if_pos h
theorem vr_up_ne {α : Type} {f : Nat → α} {l : List Nat} {v : α} {a : Nat} (h : a ∉ l) : vr_up f l v a = f a := if_neg h
theorem vr_rows {L l : List Nat} {f : Nat → va_E} {e : va_E} (h : ∀ a, a ∈ l → a ∉ L) : va_pl L f ++ l.map (fun a => (a, e)) = va_pl (L ++ l) (vr_up f l e) := by
  unfold va_pl
  rw [List.map_append]
  congr 1
  · apply List.map_congr_left
    intro a ha
    rw [vr_up_ne (fun q => h a q ha)]
  · apply List.map_congr_left
    intro a ha
    rw [vr_up_in ha]
theorem vr_lay {X rows : va_W} {x : Nat × va_E} {pl : va_W} {D : va_G} {cl : List vw_C} {H : Heap} (hP : va_P D cl (((X ++ pl) ++ [x]) ++ rows) H) : va_P D cl ((X ++ [x]) ++ (pl ++ rows)) H := by
  rw [List.append_assoc (X ++ pl)] at hP
  have h := va_P.swap hP
  rw [← List.append_assoc X] at h
  have h2 := va_P.swap h
  rw [List.append_assoc (X ++ [x])] at h2
  exact h2
theorem vr_layD {X rows : va_W} {x : Nat × va_E} {pl : va_W} {A : Nat → Prop} (hD : va_D A (((X ++ pl) ++ [x]) ++ rows)) : va_D A ((X ++ [x]) ++ (pl ++ rows)) := by
  rw [List.append_assoc (X ++ pl)] at hD
  have h := va_D.swap hD
  rw [← List.append_assoc X] at h
  have h2 := va_D.swap h
  rw [List.append_assoc (X ++ [x])] at h2
  exact h2
theorem vr_outer (c : ClassId) (N h0 : Nat) : ∀ i : Nat, Jvm.Free.Multi.outerC c N h0 i = arrV c N (fun j => va_rf (if j < i then some (h0 + 1 + j) else none))
  | 0 => by
    show ({ cls := c, slots := Array.replicate N .null, vm := .none } : Cell) = _
    rw [arrV_new]
    refine congrArg (arrV c N) (funext fun j => ?_)
    simp [va_rf]
  | i + 1 => by
    show (Jvm.Free.Multi.outerC c N h0 i).setSlot i (.ref (h0 + 1 + i)) = _
    rw [vr_outer c N h0 i, arrV_store]
    refine congrArg (arrV c N) (funext fun j => ?_)
    by_cases e : j = i
    · subst e
      simp [updV, va_rf]
    · by_cases h : j < i
      · simp [updV, e, h, Nat.lt_succ_of_lt h]
      · simp [updV, e, h, show ¬ j < i + 1 by omega]
section VGM
variable {p : Program} {l : Launch} {e : Env} {R : Room} {s : State} {m : MethodId} {args : Array Value} {below : List Frame} {meth : Method} {c : Code} {H : Heap} {locs : List Loc} {cells slots : Nat} {Q : State → Prop}
variable {cc : ByteArray} {pc : Nat} {ls : Array Slot} {rest : List Value} {D : va_G} {cl : List vw_C} {A : Nat → Prop} {a : Nat} {tys : List (ClassId × FieldType)} {ws : va_W} {H0 : Heap}
theorem va_mna {X : va_W} {L : List Nat} {f : Nat → va_E} {cc : ByteArray} (hexec : p.tables.exec = Jvm.exec) (hb : c.code = cc) {own : String} {index : Nat} {ty : FieldType} {cy : ClassId} (hown : s.vm.findClass own = some m.cls) (hclink : (Cond.classLink own index ("[" ++ (FieldType.array ty).toString)).before args s = true) (hover : va_AOA ty s) (harr : (Cond.arrayClass ty).before args s = true) (hcy : s.vm.findClass (FieldType.array ty).toString = some cy)
    (hK : va_K D cl tys s) (hP : va_P D cl (X ++ va_pl L f) H) (hD : va_D A (X ++ va_pl L f)) (hS : va_S A H0 H locs) (hA : ∀ q, H0.size ≤ q → A q) {n k : Int32} {N' K' : Nat} {z : vp_A} (hn : ¬ n < 0) (hk : ¬ k < 0) (hN : n.toNatClampNeg = N') (hM : k.toNatClampNeg = K')
    (hb1 : N' * 4 ≤ 536870912) (hb2 : K' * componentBytes ty ≤ 536870912) (hb3 : K' ≤ 536870912) (hdf : fits ty (defaultValue ty) = true) (hdd : (defaultValue ty).isDefault = true) (hcells : cells + (1 + N') ≤ R.cells) (hslots : slots + (N' + N' * K') ≤ R.slots) (hz : ∀ c : ClassId, Jvm.Free.Multi.innerC c K' (defaultValue ty) = vp_cell c z) (hdg : decode cc pc = .ok (.multianewarray index 2, 4))
    (kk : ∀ (q : Nat) (r : Nat → Nat) (cA : ClassId) (H1 : Heap), (∀ i j : Nat, i < N' → j < N' → r i = r j → i = j) → (∀ i : Nat, i < N' → r i ∉ L) → va_K D cl (tys ++ [(cA, .array ty)]) s →
      va_P D cl ((X ++ [(q, .inl (cA, N', .inr (.inr (.inr (.inr (fun i => if i < N' then some (r i) else none))))))]) ++ va_pl (L ++ (List.range N').map r) (vr_up f ((List.range N').map r) (.inl (cy, z)))) H1 → va_D A ((X ++ [(q, .inl (cA, N', .inr (.inr (.inr (.inr (fun i => if i < N' then some (r i) else none))))))]) ++ va_pl (L ++ (List.range N').map r) (vr_up f ((List.range N').map r) (.inl (cy, z)))) → va_S A H0 H1 locs →
      W p l e R s m args below meth c H1 locs (cells + 1 + N') (slots + N' + N' * K') Q (F0 m (pc + 4) ls (.ref q :: rest))) : W p l e R s m args below meth c H locs cells slots Q (F0 m pc ls (.int k :: .int n :: rest)) := by
  subst hN
  subst hM
  intro T hT Xs
  obtain ⟨vm₁, cA, comp, -, fA, fC, hO, -, X', step⟩ := Xs.multianewarray2F hexec hown hclink (va_AOA.use hover) harr (g := F0 m pc ls (.int k :: .int n :: rest)) rfl (by rw [hb]; exact hdg) rfl hn hk hb1 hb2 hb3 hdf hdd hcells hslots
  have ec : some cy = some comp := hcy.symm.trans fC
  cases ec
  generalize hF : Jvm.Free.Multi.fill (T.setVm vm₁) cA cy n.toNatClampNeg k.toNatClampNeg (defaultValue ty) n.toNatClampNeg = F at X' step
  have hTh : (T.setVm vm₁).heap = H := hT
  obtain ⟨f1, f2, -, -⟩ := Jvm.Free.Multi.fill_facts (T.setVm vm₁) cA cy n.toNatClampNeg k.toNatClampNeg (defaultValue ty) n.toNatClampNeg
  rw [hF, hTh] at f1 f2
  have hold : ∀ x : Nat, x < H.size → F.heap[x]? = H[x]? := fun x hx => by
    have := Jvm.Free.Multi.fill_old (T.setVm vm₁) cA cy n.toNatClampNeg k.toNatClampNeg (defaultValue ty) (a := x) (by rw [hTh]; exact hx) n.toNatClampNeg
    rw [hF, hTh] at this
    exact this
  have hrow : ∀ j : Nat, j < n.toNatClampNeg → F.heap[H.size + 1 + j]? = some (vp_cell cy z) := fun j hj => by
    have := Jvm.Free.Multi.fill_inner (T.setVm vm₁) cA cy n.toNatClampNeg k.toNatClampNeg (defaultValue ty) n.toNatClampNeg j hj
    rw [hF, hTh, hz] at this
    exact this
  have hout : Jvm.Free.Multi.outerC cA n.toNatClampNeg H.size n.toNatClampNeg = vp_cell cA (n.toNatClampNeg, .inr (.inr (.inr (.inr (fun i => if i < n.toNatClampNeg then some (H.size + 1 + i) else none))))) := by
    rw [vp_cell_q]
    exact vr_outer cA n.toNatClampNeg H.size n.toNatClampNeg
  rw [hout] at f2
  have hlt : ∀ a, a ∈ L → a < H.size := fun a ha => by
    obtain ⟨k9, hk9⟩ := va_pl_get (X := X) (f := f) ha
    exact (hP k9 _ hk9).lt
  have hnl : ∀ i : Nat, i < n.toNatClampNeg → H.size + 1 + i ∉ L := fun i _ h => by
    have := hlt _ h
    omega
  have hnm : ∀ a, a ∈ (List.range n.toNatClampNeg).map (fun i => H.size + 1 + i) → a ∉ L := fun a ha h => by
    obtain ⟨i, -, rfl⟩ := List.mem_map.mp ha
    have := hlt _ h
    omega
  have hP0 : va_P D cl (X ++ va_pl L f) F.heap := hP.kept (fun k9 x hx => hold x.1 ((hP k9 x hx).lt))
  have hP1 : va_P D cl ((X ++ va_pl L f) ++ [(H.size, .inl (cA, n.toNatClampNeg, .inr (.inr (.inr (.inr (fun i => if i < n.toNatClampNeg then some (H.size + 1 + i) else none))))))]) F.heap := hP0.app (fun k9 x hx => by
    have h0 : k9 < 1 := (List.getElem?_eq_some_iff.mp hx).1
    rw [show k9 = 0 by omega] at hx
    cases hx
    exact f2)
  have hP2 : va_P D cl (((X ++ va_pl L f) ++ [(H.size, .inl (cA, n.toNatClampNeg, .inr (.inr (.inr (.inr (fun i => if i < n.toNatClampNeg then some (H.size + 1 + i) else none))))))]) ++ ((List.range n.toNatClampNeg).map (fun i => H.size + 1 + i)).map (fun a => (a, .inl (cy, z)))) F.heap := hP1.app (fun k9 x hx => by
    obtain ⟨a, ha, rfl⟩ := List.mem_map.mp (List.mem_of_getElem? hx)
    obtain ⟨i, hi, rfl⟩ := List.mem_map.mp ha
    exact hrow i (List.mem_range.mp hi))
  have hD2 : va_D A (((X ++ va_pl L f) ++ [(H.size, .inl (cA, n.toNatClampNeg, .inr (.inr (.inr (.inr (fun i => if i < n.toNatClampNeg then some (H.size + 1 + i) else none))))))]) ++ ((List.range n.toNatClampNeg).map (fun i => H.size + 1 + i)).map (fun a => (a, .inl (cy, z)))) := by
    have hD1 := hD.push (e := .inl (cA, n.toNatClampNeg, .inr (.inr (.inr (.inr (fun i => if i < n.toNatClampNeg then some (H.size + 1 + i) else none)))))) hP rfl (hA _ hS.1)
    generalize hW1 : (X ++ va_pl L f) ++ [(H.size, .inl (cA, n.toNatClampNeg, .inr (.inr (.inr (.inr (fun i => if i < n.toNatClampNeg then some (H.size + 1 + i) else none))))))] = W1 at hD1 hP1 ⊢
    have hle : ∀ (k9 : Nat) (x : Nat × va_E), W1[k9]? = some x → x.1 ≤ H.size := fun k9 x hx => by
      rw [← hW1] at hx
      by_cases hl : k9 < (X ++ va_pl L f).length
      · rw [List.getElem?_append_left hl] at hx
        exact Nat.le_of_lt ((hP k9 x hx).lt)
      · rw [List.getElem?_append_right (by omega)] at hx
        have h0 : k9 - (X ++ va_pl L f).length < 1 := (List.getElem?_eq_some_iff.mp hx).1
        rw [show k9 - (X ++ va_pl L f).length = 0 by omega] at hx
        cases hx
        exact Nat.le_refl _
    have hr : ∀ (k9 : Nat) (x : Nat × va_E), (((List.range n.toNatClampNeg).map (fun i => H.size + 1 + i)).map (fun a => ((a, .inl (cy, z)) : Nat × va_E)))[k9]? = some x → x.1 = H.size + 1 + k9 := fun k9 x hx => by
      rw [List.getElem?_map, List.getElem?_map] at hx
      by_cases h9 : k9 < n.toNatClampNeg
      · rw [List.getElem?_range h9] at hx
        cases hx
        rfl
      · have hn0 : (List.range n.toNatClampNeg)[k9]? = none := List.getElem?_eq_none (by rw [List.length_range]; omega)
        rw [hn0] at hx
        cases hx
    refine ⟨fun i j x y hi hj hxy => ?_, fun k9 x hx => ?_⟩
    · by_cases h1 : i < W1.length <;> by_cases h2 : j < W1.length
      · rw [List.getElem?_append_left h1] at hi
        rw [List.getElem?_append_left h2] at hj
        exact hD1.1 i j x y hi hj hxy
      · rw [List.getElem?_append_left h1] at hi
        rw [List.getElem?_append_right (by omega)] at hj
        have := hle _ _ hi
        have := hr _ _ hj
        omega
      · rw [List.getElem?_append_right (by omega)] at hi
        rw [List.getElem?_append_left h2] at hj
        have := hle _ _ hj
        have := hr _ _ hi
        omega
      · rw [List.getElem?_append_right (by omega)] at hi hj
        have := hr _ _ hi
        have := hr _ _ hj
        omega
    · by_cases h1 : k9 < W1.length
      · rw [List.getElem?_append_left h1] at hx
        exact hD1.2 k9 x hx
      · rw [List.getElem?_append_right (by omega)] at hx
        have := hr _ _ hx
        exact hA _ (by have := hS.1; omega)
  have hAr : ArrOfT s cA (.array ty) := fun N9 z9 => by
    obtain ⟨-, k9, hk9, cm9, hkk9⟩ := (hO 0 0 0).1
    exact ⟨(fun q hq => by cases hq), k9, hk9, cm9, hkk9⟩
  have hK2 : va_K D cl (tys ++ [(cA, .array ty)]) s := ⟨hK.1, fun k9 x hx => by
    by_cases hl : k9 < tys.length
    · rw [List.getElem?_append_left hl] at hx
      exact hK.2 k9 x hx
    · rw [List.getElem?_append_right (by omega)] at hx
      have h0 : k9 - tys.length < 1 := (List.getElem?_eq_some_iff.mp hx).1
      rw [show k9 - tys.length = 0 by omega] at hx
      cases hx
      exact ⟨hAr, fA⟩⟩
  obtain ⟨t, a1, b1⟩ := kk H.size (fun i => H.size + 1 + i) cA F.heap (fun i j _ _ h => by have h9 : H.size + 1 + i = H.size + 1 + j := h; omega) hnl hK2 (by rw [← vr_rows hnm]; exact vr_lay hP2) (by rw [← vr_rows hnm]; exact vr_layD hD2) ⟨by rw [f1]; have := hS.1; omega, fun x h1 h2 => (hold x (Nat.lt_of_lt_of_le h1 hS.1)).trans (hS.2.1 x h1 h2), hS.2.2⟩ F rfl X'
  refine ⟨t, step t ?_, b1⟩
  have e : T.heap.size = H.size := by rw [hT]
  rw [e]
  exact a1
end VGM
/-! ===== END ===== -/

/-! ===== BEGIN exceptions that leave a method, and their catching by the caller (launches without stack traces) ===== -/
section VXA
/-! The laws vx_back, vx_callV, vx_callS, vx_callSW, vx_throw0, vx_throwS follow proofs of the library, with one case more: JvmDerived/Free/Laws.lean (Back.of_free), Shelf42/LK1.lean (callV, callS), Shelf/KitTraced.lean (throwNew0V, throwNewS). -/
/-- where a method has thrown q: the class by its name, the cell, what was written, the world -/
def vx_T (XC : String → State → State → Prop) (st : State) (q : Addr) (t : State) (mc ms : Nat) (free : Addr → Prop) : Prop :=
  ∃ (E : String) (ce : Cell) (L : List Loc), XC E st t ∧ t.heap[q]? = some ce ∧ ce.vm = .none ∧ st.vm.findClass E = some ce.cls ∧ st.WarmedH t.vm ∧ st.sameButNew ({ t with vm := st.vm } : State) L mc ms ∧ ∀ z ∈ L, free z.base
def vx_Q (Qc : Array Value → State → Outcome → State → Prop) (XC : String → State → State → Prop) (mc ms : Nat) (free : Addr → Prop) : Array Value → State → Outcome → State → Prop := fun a st o t =>
  (Qc a st o t ∧ ∃ L, FrameEnd st o t L mc ms ∧ ∀ q ∈ L, free q.base) ∨ ∃ q, o = .threw q ∧ vx_T XC st q t mc ms free
/-- a callee that returns or throws -/
def vx_Met (l : Launch) (y : MethodName) (ws : List Cond) (rm : Room) (Pc : Array Value → State → Prop) (Qc : Array Value → State → Outcome → State → Prop) (XC : String → State → State → Prop) (mc ms : Nat) (free : Addr → Prop) : Prop :=
  MetFree l y (headSpec ws rm) Pc (fun _ _ _ _ _ => True) (vx_Q Qc XC mc ms free)
def vx_Post (XC : String → State → State → Prop) (mc ms : Nat) (free : Addr → Prop) : Pt → Array Value → Addr → Pt → Prop := fun A a q B =>
  ∃ (g : JFrame) (mk : MethodId) (t : State) (L : List Loc) (E : String) (ce : Cell), B.U.heap = t.heap ∧ B.U.vm = t.vm ∧ XC E (A.U.calling g mk a) t ∧ t.heap[q]? = some ce ∧ ce.vm = .none ∧ A.U.vm.findClass E = some ce.cls ∧ B.locs = A.locs ++ L ∧ (∀ z ∈ L, free z.base) ∧ B.cells = A.cells + mc ∧ B.slots = A.slots + ms
def vx_Back (l : Launch) (R : Room) (p : Program) (e : Env) (below : List Frame) (s : State) (sargs : Array Value) (y : MethodName) (len W9 : Nat)
    (Pre : Pt → Array Value → Prop) (Post : Pt → Array Value → Option Value → Pt → Prop) (PostX : Pt → Array Value → Addr → Pt → Prop) : Prop :=
  ∀ (m : MethodId) (meth : Method) (c : Code) (A : Pt) (g : JFrame) (ig : Instr) (mk : MethodId) (a : Array Value),
    Stand p l e R s m sargs below meth c A.U A.locs A.cells A.slots → g.method = m → g.locals.size = c.maxLocals → decode c.code g.pc = .ok (ig, len) →
    2 * g.monitorRoom + (g.stack.map fun v => v.category).sum ≤ W9 → A.U.methodNamed? y = some mk → Pre A a →
    (∃ (v : Option Value) (B : Pt), Stand p l e R s m sargs below meth c B.U B.locs B.cells B.slots ∧ Post A a v B ∧
      Steps p.tables e below (doInvoke e (A.U.setTop g) [] mk a).1 (B.U.setTop { g with pc := g.pc + len, stack := v.toList ++ g.stack })) ∨
    (∃ (q : Addr) (B : Pt), Stand p l e R s m sargs below meth c B.U B.locs B.cells B.slots ∧ PostX A a q B ∧
      Steps p.tables e below (doInvoke e (A.U.setTop g) [] mk a).1 ((B.U.setTop g).pushFrame (.throwing q)))
section Payer
variable {l : Launch} {R : Room} {p : Program} {e : Env} {below : List Frame} {s : State} {sargs : Array Value} {y : MethodName} {len W9 : Nat}
theorem vx_back {ws : List Cond} {rm : Room} {Pc : Array Value → State → Prop} {Qc : Array Value → State → Outcome → State → Prop} {XC : String → State → State → Prop} {mc ms : Nat} {free : Addr → Prop} {bytes : ByteArray} {maxL : Nat} {ret : Option FieldType}
    (hM : vx_Met l y ws rm Pc Qc XC mc ms free) (hblind : FrameBlind Pc) (hrc : rm.cells = mc) (hrs : rm.slots = ms)
    (hframes : rm.frames + 1 ≤ R.frames) (hlocals : W9 + (maxL + 11) + rm.locals ≤ R.locals)
    (hws : ∀ w ∈ ws, ∀ a' U, s.WarmedH U.vm → w.before a' U = true) (hcode : Cond.code y bytes maxL ret ∈ ws) (hinit : ∀ a' U, s.WarmedH U.vm → (Cond.initialized y.cls).before a' U = true) :
    vx_Back l R p e below s sargs y len W9 (PreOf R mc ms Pc) (PostOf Qc mc ms free) (vx_Post XC mc ms free) := by
  intro m meth c A g ig mk a X hg hsize hdg hW hn hp
  have h1 : (headSpec ws rm).pre.before a A.U = true := atoms_intro fun w hw => hws w hw _ _ X.warmed
  have h2 : (Cond.code y bytes maxL ret).before a A.U = true := hws _ hcode _ _ X.warmed
  have h3 : (Cond.initialized y.cls).before a A.U = true := hinit _ _ X.warmed
  have h4 : A.cells + (headSpec ws rm).room.cells ≤ R.cells := by rw [show (headSpec ws rm).room.cells = mc from hrc]; exact hp.1
  have h5 : A.slots + (headSpec ws rm).room.slots ≤ R.slots := by rw [show (headSpec ws rm).room.slots = ms from hrs]; exact hp.2.1
  have hPc : Pc a (A.U.calling g mk a) := hblind _ _ _ _ hp.2.2
  obtain ⟨U, Ls, c0, s0⟩ := A
  dsimp only [Pt.U, Pt.locs, Pt.cells, Pt.slots] at h1 h2 h3 h4 h5 X hn hPc ⊢
  obtain ⟨methY, cY, hmY, hcY, -, hlY, -, -, -, -⟩ := Cond.code_spec hn h2
  obtain ⟨kY, hkY, -⟩ := className_of_methodNamed hn
  have hinitY : kY.init = .initialized := Cond.initialized_spec (findClass_of_methodNamed hn) hkY h3
  have h : At U g.method c below := by rw [hg]; exact X.here
  have hlocals9 : W9 + (maxL + 11) + (headSpec ws rm).room.locals ≤ R.locals := hlocals
  have happ : (headSpec ws rm).appliesLoose y e.platform (U.calling g mk a) = true :=
    Spec.appliesLoose_calling (g := g) h hdg hn hkY hinitY
      (X.room_calling (g := g) (R' := (headSpec ws rm).room) hsize hmY hcY hframes (by rw [hlY]; omega) h4 h5) h1
  obtain ⟨mid, hmid⟩ := h.above
  have hfr : (U.setTop g).frames = (.java g :: mid) ++ below := by rw [State.frames_setTop' g h.top, hmid]; rfl
  obtain ⟨o, s₂, hsteps, -, hend, hq⟩ := Steps.callFree hM p X.admits X.cas X.clock (acts := []) hfr happ hPc trivial
  have hq' : vx_Q Qc XC mc ms free a (U.calling g mk a) o s₂ := hq
  rw [State.frames_setTop' g h.top] at hend
  obtain ⟨g₀, hg0⟩ := Option.isSome_iff_exists.mp h.top
  obtain ⟨r, hr⟩ := State.topJava?_eq_some.mp hg0
  have hr' : (({ U with heap := s₂.heap, slotsUsed := s₂.slotsUsed } : State).setVm s₂.vm).frames = .java g₀ :: r := hr
  rcases hq' with ⟨hqc, L, hfe, hL⟩ | ⟨q, rfl, E, ce, L, hx, hce, hcv, hcl, hW₂, hsm, hL⟩
  · obtain ⟨⟨v, rfl⟩, hW₂, e2, q2, q3, q4, q5, q6⟩ := id hfe
    have e3 : s₂ = ({ (U.calling g mk a).setFrames s₂.frames with heap := s₂.heap, slotsUsed := s₂.slotsUsed } : State).setVm s₂.vm := by
      have : s₂ = ({ s₂ with vm := (U.calling g mk a).vm } : State).setVm s₂.vm := rfl
      rw [e2] at this
      exact this
    obtain ⟨c₂, i₂, len₂, hc₂, hd₂, hf₂⟩ := hend
    have hW' : U.WarmedH s₂.vm := hW₂
    have hcc : c₂ = c := by
      have h1 : s₂.code? g.method = U.code? g.method := by
        rw [State.code?_eq, State.code?_eq, hW'.alike.method?]
      exact Option.some.inj (hc₂.symm.trans (h1.trans h.code))
    subst hcc
    have hlen : len₂ = len := by rw [hdg] at hd₂; cases hd₂; rfl
    subst hlen
    have hs₂ : s₂ = (({ U with heap := s₂.heap, slotsUsed := s₂.slotsUsed } : State).setVm s₂.vm).setTop { g with pc := g.pc + len₂, stack := v.toList ++ g.stack } := by
      refine e3.trans ?_
      rw [hf₂, State.calling_eq h.top, State.setFrames_setFrames, State.setTop_of_frames _ hr', hr]
      rfl
    have hsame : U.sameButNew ({ U with heap := s₂.heap, slotsUsed := s₂.slotsUsed } : State) L mc ms := by
      refine ⟨?_, q2, q3, q4, q5, q6⟩
      obtain ⟨t, ht, -⟩ := State.frames_cons hr
      show ({ U with heap := s₂.heap, slotsUsed := s₂.slotsUsed } : State) = { U.setFrames U.frames with heap := s₂.heap, slotsUsed := s₂.slotsUsed }
      rw [State.setFrames_self ht]
    subst hg
    refine Or.inl ⟨v, ⟨(({ U with heap := s₂.heap, slotsUsed := s₂.slotsUsed } : State).setVm s₂.vm), Ls ++ L, c0 + mc, s0 + ms⟩,
      ⟨X.admits, X.cas, X.clock, X.frames, X.room, X.hears, X.method, X.code, (X.here.setHeapUsed s₂.heap s₂.slotsUsed).setVm hW'.alike, X.tail, State.WarmedH.trans X.warmed hW', X.limits, X.bytes, X.same.trans (hsame.setVm s.vm)⟩,
      ⟨g, mk, s₂, L, rfl, rfl, hqc, rfl, hL, rfl, rfl⟩, ?_⟩
    show Steps p.tables e below _ ((({ U with heap := s₂.heap, slotsUsed := s₂.slotsUsed } : State).setVm s₂.vm).setTop { g with pc := g.pc + len₂, stack := v.toList ++ g.stack })
    rw [← hs₂]
    exact hsteps
  · obtain ⟨e2, q2, q3, q4, q5, q6⟩ := id hsm
    have e3 : s₂ = ({ (U.calling g mk a).setFrames s₂.frames with heap := s₂.heap, slotsUsed := s₂.slotsUsed } : State).setVm s₂.vm := by
      have : s₂ = ({ s₂ with vm := (U.calling g mk a).vm } : State).setVm s₂.vm := rfl
      rw [e2] at this
      exact this
    have hf₂ : s₂.frames = .throwing q :: .java g :: U.frames.tail := hend
    have hW' : U.WarmedH s₂.vm := hW₂
    have hs₂ : s₂ = ((({ U with heap := s₂.heap, slotsUsed := s₂.slotsUsed } : State).setVm s₂.vm).setTop g).pushFrame (.throwing q) := by
      refine e3.trans ?_
      rw [hf₂, State.calling_eq h.top, State.setFrames_setFrames, State.pushFrame, State.frames_setTop _ hr', State.setTop_of_frames _ hr', State.setFrames_setFrames, hr]
      rfl
    have hsame : U.sameButNew ({ U with heap := s₂.heap, slotsUsed := s₂.slotsUsed } : State) L mc ms := by
      refine ⟨?_, q2, q3, q4, q5, q6⟩
      obtain ⟨t, ht, -⟩ := State.frames_cons hr
      show ({ U with heap := s₂.heap, slotsUsed := s₂.slotsUsed } : State) = { U.setFrames U.frames with heap := s₂.heap, slotsUsed := s₂.slotsUsed }
      rw [State.setFrames_self ht]
    subst hg
    refine Or.inr ⟨q, ⟨(({ U with heap := s₂.heap, slotsUsed := s₂.slotsUsed } : State).setVm s₂.vm), Ls ++ L, c0 + mc, s0 + ms⟩,
      ⟨X.admits, X.cas, X.clock, X.frames, X.room, X.hears, X.method, X.code, (X.here.setHeapUsed s₂.heap s₂.slotsUsed).setVm hW'.alike, X.tail, State.WarmedH.trans X.warmed hW', X.limits, X.bytes, X.same.trans (hsame.setVm s.vm)⟩,
      ⟨g, mk, s₂, L, E, ce, rfl, rfl, hx, hce, hcv, hcl, rfl, hL, rfl, rfl⟩, ?_⟩
    show Steps p.tables e below _ (((({ U with heap := s₂.heap, slotsUsed := s₂.slotsUsed } : State).setVm s₂.vm).setTop g).pushFrame (.throwing q))
    rw [← hs₂]
    exact hsteps
end Payer
section Calls
variable {p : Program} {l : Launch} {e : Env} {R : Room} {s : State} {m : MethodId} {args : Array Value} {below : List Frame} {meth : Method} {c : Code} {T : State} {locs : List Loc} {cells slots : Nat}
theorem vx_callV (X : Stand p l e R s m args below meth c T locs cells slots) (hexec : p.tables.exec = Jvm.exec) {own C : String} {index : Nat} {y : MethodName} {bytes : ByteArray} {maxL : Nat} {ret : Option FieldType}
    (hown : s.vm.findClass own = some m.cls) (hlink : (Cond.methodLink own index y).before args s = true) (hinst : (Cond.instanceMethod y).before args s = true) (hsel : (Cond.selects C y y).before args s = true)
    (hcode : (Cond.code y bytes maxL ret).before args s = true) (hy : y.cls ≠ "java/lang/invoke/MethodHandle" ∧ y.cls ≠ "java/lang/invoke/VarHandle")
    {W9 : Nat} {Pre : Pt → Array Value → Prop} {Post : Pt → Array Value → Option Value → Pt → Prop} {PostX : Pt → Array Value → Addr → Pt → Prop} (hK : vx_Back l R p e below s args y 3 W9 Pre Post PostX)
    {b : Addr} {cellB : Cell} (hcell : T.heap[b]? = some cellB) (hobj : cellB.vm.isStatics = false) (hcls : s.vm.findClass C = some cellB.cls)
    {g : JFrame} (hg : g.method = m) (hsize : g.locals.size = c.maxLocals) {argsL rest : List Value} (hlen : ∀ sig, parseMethodDescriptor y.desc = some sig → argsL.length = sig.parameters.length)
    (hstack : g.stack = argsL.reverse ++ .ref b :: rest) (hW : 2 * g.monitorRoom + (rest.map fun v => v.category).sum ≤ W9) (hdg : decode c.code g.pc = .ok (.invokevirtual index, 3))
    (hpre : ∀ vm₁, s.WarmedH vm₁ → Pre ⟨T.setVm vm₁, locs, cells, slots⟩ (Value.ref b :: argsL).toArray) :
    (∃ (v : Option Value) (vm₁ : Vm) (B : Pt), s.WarmedH vm₁ ∧ Stand p l e R s m args below meth c B.U B.locs B.cells B.slots ∧ Post ⟨T.setVm vm₁, locs, cells, slots⟩ (Value.ref b :: argsL).toArray v B ∧
      ∀ target, Steps p.tables e below (B.U.setTop { g with pc := g.pc + 3, stack := v.toList ++ rest }) target → Steps p.tables e below (T.setTop g) target) ∨
    (∃ (q : Addr) (vm₁ : Vm) (B : Pt), s.WarmedH vm₁ ∧ Stand p l e R s m args below meth c B.U B.locs B.cells B.slots ∧ PostX ⟨T.setVm vm₁, locs, cells, slots⟩ (Value.ref b :: argsL).toArray q B ∧
      Steps p.tables e below (T.setTop g) ((B.U.setTop { g with stack := rest }).pushFrame (.throwing q))) := by
  obtain ⟨mk, methM, hnamed, hmethM, hstM, habM⟩ := Cond.instanceMethod_spec hinst
  obtain ⟨methM', cM, hmethM', -, -, -, -, -, -, hsigM⟩ := Cond.code_spec hnamed hcode
  cases hmethM.symm.trans hmethM'
  obtain ⟨c2, r2, m2, q1, q2, q3, q4, kP, hkP, hkPi⟩ := Cond.selects_spec hsel
  cases hcls.symm.trans q1
  cases (State.methodFound?_of_named hnamed hy).symm.trans q2
  cases hnamed.symm.trans q3
  have hselP : selectMethod e.platform s.vm cellB.cls mk = .method mk := by rw [Launch.admits_selectMethod X.admits]; exact q4
  obtain ⟨vm₁, X₁, hstep₁⟩ := X.invokevirtual hexec hown hlink hnamed hmethM hstM hkP hkPi hy (a := b) (cell := cellB) hcell
    (fun z h => by rw [h] at hobj; cases hobj) hselP hmethM habM hkP hkPi (g := g) hg (argsL := argsL) (rest := rest) (hlen _ hsigM) hstack hdg
  rcases hK m meth c ⟨T.setVm vm₁, locs, cells, slots⟩ { g with stack := rest } (.invokevirtual index) mk (Value.ref b :: argsL).toArray X₁ hg hsize hdg hW (X₁.named hnamed) (hpre vm₁ X₁.warmed) with ⟨v, B, X', hpost, hsteps⟩ | ⟨q, B, X', hpost, hsteps⟩
  · exact Or.inl ⟨v, vm₁, B, X₁.warmed, X', hpost, fun target h => hstep₁ _ fun acts => by rw [doInvoke_state]; exact hsteps.trans h⟩
  · exact Or.inr ⟨q, vm₁, B, X₁.warmed, X', hpost, hstep₁ _ fun acts => by rw [doInvoke_state]; exact hsteps⟩
theorem vx_callS (X : Stand p l e R s m args below meth c T locs cells slots) (hexec : p.tables.exec = Jvm.exec) {own : String} {index : Nat} {y : MethodName} {bytes : ByteArray} {maxL : Nat} {ret : Option FieldType}
    (hown : s.vm.findClass own = some m.cls) (hlink : (Cond.methodLink own index y).before args s = true) (hstat : (Cond.static y).before args s = true) (hinit : (Cond.initialized y.cls).before args s = true)
    (hcode : (Cond.code y bytes maxL ret).before args s = true) (hy : y.cls ≠ "java/lang/invoke/MethodHandle" ∧ y.cls ≠ "java/lang/invoke/VarHandle")
    {W9 : Nat} {Pre : Pt → Array Value → Prop} {Post : Pt → Array Value → Option Value → Pt → Prop} {PostX : Pt → Array Value → Addr → Pt → Prop} (hK : vx_Back l R p e below s args y 3 W9 Pre Post PostX)
    {g : JFrame} (hg : g.method = m) (hsize : g.locals.size = c.maxLocals) {argsL rest : List Value} (hlen : ∀ sig, parseMethodDescriptor y.desc = some sig → argsL.length = sig.parameters.length)
    (hstack : g.stack = argsL.reverse ++ rest) (hW : 2 * g.monitorRoom + (rest.map fun v => v.category).sum ≤ W9) (hdg : decode c.code g.pc = .ok (.invokestatic index, 3))
    (hpre : ∀ vm₁, s.WarmedH vm₁ → Pre ⟨T.setVm vm₁, locs, cells, slots⟩ argsL.toArray) :
    (∃ (v : Option Value) (vm₁ : Vm) (B : Pt), s.WarmedH vm₁ ∧ Stand p l e R s m args below meth c B.U B.locs B.cells B.slots ∧ Post ⟨T.setVm vm₁, locs, cells, slots⟩ argsL.toArray v B ∧
      ∀ target, Steps p.tables e below (B.U.setTop { g with pc := g.pc + 3, stack := v.toList ++ rest }) target → Steps p.tables e below (T.setTop g) target) ∨
    (∃ (q : Addr) (vm₁ : Vm) (B : Pt), s.WarmedH vm₁ ∧ Stand p l e R s m args below meth c B.U B.locs B.cells B.slots ∧ PostX ⟨T.setVm vm₁, locs, cells, slots⟩ argsL.toArray q B ∧
      Steps p.tables e below (T.setTop g) ((B.U.setTop { g with stack := rest }).pushFrame (.throwing q))) := by
  obtain ⟨mk, hnamed⟩ := Cond.code_named hcode
  obtain ⟨methM, cM, hmethM, -, -, -, -, -, -, hsigM⟩ := Cond.code_spec hnamed hcode
  have hstatic : methM.isStatic = true := Cond.static_spec hnamed hmethM hstat
  obtain ⟨kP, hkP, -⟩ := className_of_methodNamed hnamed
  have hinitP : kP.init = .initialized := Cond.initialized_spec (findClass_of_methodNamed hnamed) hkP hinit
  obtain ⟨vm₁, X₁, hstep₁⟩ := X.invokestatic hexec hown hlink hnamed hmethM hstatic hkP hinitP hy (g := g) hg (argsL := argsL) (rest := rest) (hlen _ hsigM) hstack hdg
  rcases hK m meth c ⟨T.setVm vm₁, locs, cells, slots⟩ { g with stack := rest } (.invokestatic index) mk argsL.toArray X₁ hg hsize hdg hW (X₁.named hnamed) (hpre vm₁ X₁.warmed) with ⟨v, B, X', hpost, hsteps⟩ | ⟨q, B, X', hpost, hsteps⟩
  · exact Or.inl ⟨v, vm₁, B, X₁.warmed, X', hpost, fun target h => hstep₁ _ fun acts => by rw [doInvoke_state]; exact hsteps.trans h⟩
  · exact Or.inr ⟨q, vm₁, B, X₁.warmed, X', hpost, hstep₁ _ fun acts => by rw [doInvoke_state]; exact hsteps⟩
end Calls
theorem vx_cls {s : State} {T : State} {vm₁ : Vm} {E : String} {k : ClassId} (hW : s.WarmedH vm₁) (h : (T.setVm vm₁).vm.findClass E = some k) : s.vm.findClass E = some k := by
  have h1 : vm₁.findClass E = some k := h
  rw [hW.alike.findClass] at h1
  exact h1
/-- the method's frame g, with q thrown over it -/
def vx_W (p : Program) (l : Launch) (e : Env) (R : Room) (s : State) (m : MethodId) (args : Array Value) (below : List Frame) (meth : Method) (c : Code) (H : Heap) (locs : List Loc) (cells slots : Nat) (Q : State → Prop) (g : JFrame) (q : Addr) : Prop :=
  ∀ T : State, T.heap = H → Stand p l e R s m args below meth c T locs cells slots → ∃ t, Steps p.tables e below ((T.setTop g).pushFrame (.throwing q)) t ∧ Q t
def vx_Run (p : Program) (l : Launch) (e : Env) (R : Room) (s : State) (m : MethodId) (args : Array Value) (below : List Frame) (meth : Method) (c : Code) (H : Heap) (locs : List Loc) (cells slots mc ms : Nat) (g : JFrame) (rest : List Value) (Qa : State → Outcome → State → Prop) (XC : String → State → State → Prop) (free : Addr → Prop) : Prop :=
  ∀ T : State, T.heap = H → Stand p l e R s m args below meth c T locs cells slots →
    (∃ (v : Option Value) (st₀ t T' : State) (L : List Loc), st₀.heap = H ∧ Stand p l e R s m args below meth c T' (locs ++ L) (cells + mc) (slots + ms) ∧ (∀ q ∈ L, free q.base) ∧ T'.heap = t.heap ∧ T'.vm = t.vm ∧ Qa st₀ (.returned v) t ∧
      Goes p e below T g T' { g with pc := g.pc + 3, stack := v.toList ++ rest }) ∨
    (∃ (q : Addr) (st₀ t T' : State) (L : List Loc) (E : String) (ce : Cell), st₀.heap = H ∧ Stand p l e R s m args below meth c T' (locs ++ L) (cells + mc) (slots + ms) ∧ (∀ z ∈ L, free z.base) ∧ T'.heap = t.heap ∧ T'.vm = t.vm ∧ XC E st₀ t ∧ t.heap[q]? = some ce ∧ ce.vm = .none ∧ s.vm.findClass E = some ce.cls ∧
      Steps p.tables e below (T.setTop g) ((T'.setTop { g with stack := rest }).pushFrame (.throwing q)))
def vx_X {S : Type} (px : S → Prop) (B : String → S → State → Prop) (A : Nat → Prop) : String → State → State → Prop := fun E st t => ∃ u : S, px u ∧ B E u t ∧ va_F A st t
section Runs
variable {p : Program} {l : Launch} {e : Env} {R : Room} {s : State} {m : MethodId} {args : Array Value} {below : List Frame} {meth : Method} {c : Code} {H : Heap} {locs : List Loc} {cells slots : Nat}
variable {y : MethodName} {bytes cc : ByteArray} {maxL nL mc ms n index : Nat} {ret : Option FieldType} {ws : List Cond} {rm : Room} {Pc : Array Value → State → Prop} {Qc : Array Value → State → Outcome → State → Prop} {XC : String → State → State → Prop} {free : Addr → Prop} {Ts : List Cond} {own C : String} {b : Addr} {As rest : List Value} {g : JFrame}
theorem vx_callBack (cb : CallB R s args own index y bytes maxL ret ws rm mc ms n) (hM : vx_Met l y ws rm Pc Qc XC mc ms free) (hbl : FrameBlind Pc) : vx_Back l R p e below s args y 3 8 (PreOf R mc ms Pc) (PostOf Qc mc ms free) (vx_Post XC mc ms free) := by
  obtain ⟨hrc, hrs, hfr, hlo, hws, hcw, -, hini, -⟩ := cb
  exact vx_back (bytes := bytes) (maxL := maxL) (ret := ret) hM hbl hrc hrs hfr hlo hws hcw (fun a' U hW => word_at hW (Or.inl (by first | rfl | simp [Cond.onTables, Cond.keeps, Cond.steady])) hini)
theorem vx_runV (S : CallFix p m c cc nL s args Ts own) (hM : vx_Met l y ws rm Pc Qc XC mc ms free) (cw : CallW R s args own C index y bytes maxL ret ws rm mc ms n) (hp : PreV s H C b Pc As)
    (hg : g.method = m) (hn : As.length = n) (hsize : g.locals.size = nL) (hstack : g.stack = As.reverse ++ .ref b :: rest) (hW : 2 * g.monitorRoom + (rest.map fun v => v.category).sum ≤ 8) (hdg : decode cc g.pc = .ok (.invokevirtual index, 3)) (hf : cells + mc ≤ R.cells ∧ slots + ms ≤ R.slots) :
    vx_Run p l e R s m args below meth c H locs cells slots mc ms g rest (Qc (Value.ref b :: As).toArray) XC free := by
  have hK : vx_Back l R p e below s args y 3 8 (PreOf R mc ms Pc) (PostOf Qc mc ms free) (vx_Post XC mc ms free) := vx_callBack cw.1 hM hp.1
  obtain ⟨⟨-, -, -, -, -, -, hcode, -, hy, hlen, hl⟩, hin, hse⟩ := cw
  obtain ⟨hx, hb, hml, ho, -⟩ := S
  obtain ⟨-, ⟨cellB, hcB, hoB, hclB⟩, hPc⟩ := hp
  intro T hT X
  rcases vx_callV X hx (C := C) (bytes := bytes) (maxL := maxL) (ret := ret) ho hl hin hse hcode hy hK (by rw [hT]; exact hcB) hoB hclB hg (hsize.trans hml.symm) (argsL := As) (rest := rest) (fun sig h => hn.trans (hlen sig h)) hstack hW (by rw [hb]; exact hdg)
    (fun vm₁ hW₁ => ⟨hf.1, hf.2, hPc (T.setVm vm₁) hT hW₁⟩) with ⟨v, vm₁, ⟨U', l2, c2, s2⟩, hW₁, X', ⟨g', mk, t, L, e1, e2, hq, h1, hL, h2, h3⟩, st⟩ | ⟨q, vm₁, ⟨U', l2, c2, s2⟩, hW₁, X', ⟨g', mk, t, L, E, ce, e1, e2, hq, hce, hcv, hcl, h1, hL, h2, h3⟩, st⟩
  · dsimp only [Pt.U, Pt.locs, Pt.cells, Pt.slots] at X' e1 e2 h1 h2 h3 st
    subst h1; subst h2; subst h3
    exact Or.inl ⟨v, (T.setVm vm₁).calling g' mk (Value.ref b :: As).toArray, t, U', L, hT, X', hL, e1, e2, hq, st⟩
  · dsimp only [Pt.U, Pt.locs, Pt.cells, Pt.slots] at X' e1 e2 h1 h2 h3 st hcl
    subst h1; subst h2; subst h3
    exact Or.inr ⟨q, (T.setVm vm₁).calling g' mk (Value.ref b :: As).toArray, t, U', L, E, ce, hT, X', hL, e1, e2, hq, hce, hcv, vx_cls hW₁ hcl, st⟩
theorem vx_runS (S : CallFix p m c cc nL s args Ts own) (hM : vx_Met l y ws rm Pc Qc XC mc ms free) (cw : CallB R s args own index y bytes maxL ret ws rm mc ms n ∧ (Cond.static y).before args s = true) (hp : PreS s H Pc As)
    (hg : g.method = m) (hn : As.length = n) (hsize : g.locals.size = nL) (hstack : g.stack = As.reverse ++ rest) (hW : 2 * g.monitorRoom + (rest.map fun v => v.category).sum ≤ 8) (hdg : decode cc g.pc = .ok (.invokestatic index, 3)) (hf : cells + mc ≤ R.cells ∧ slots + ms ≤ R.slots) :
    vx_Run p l e R s m args below meth c H locs cells slots mc ms g rest (Qc As.toArray) XC free := by
  have hK : vx_Back l R p e below s args y 3 8 (PreOf R mc ms Pc) (PostOf Qc mc ms free) (vx_Post XC mc ms free) := vx_callBack cw.1 hM hp.1
  obtain ⟨⟨-, -, -, -, -, -, hcode, hini, hy, hlen, hl⟩, hstt⟩ := cw
  obtain ⟨hx, hb, hml, ho, -⟩ := S
  intro T hT X
  rcases vx_callS X hx (bytes := bytes) (maxL := maxL) (ret := ret) ho hl hstt hini hcode hy hK hg (hsize.trans hml.symm) (argsL := As) (rest := rest) (fun sig h => hn.trans (hlen sig h)) hstack hW (by rw [hb]; exact hdg)
    (fun vm₁ hW₁ => ⟨hf.1, hf.2, hp.2 (T.setVm vm₁) hT hW₁⟩) with ⟨v, vm₁, ⟨U', l2, c2, s2⟩, hW₁, X', ⟨g', mk, t, L, e1, e2, hq, h1, hL, h2, h3⟩, st⟩ | ⟨q, vm₁, ⟨U', l2, c2, s2⟩, hW₁, X', ⟨g', mk, t, L, E, ce, e1, e2, hq, hce, hcv, hcl, h1, hL, h2, h3⟩, st⟩
  · dsimp only [Pt.U, Pt.locs, Pt.cells, Pt.slots] at X' e1 e2 h1 h2 h3 st
    subst h1; subst h2; subst h3
    exact Or.inl ⟨v, (T.setVm vm₁).calling g' mk As.toArray, t, U', L, hT, X', hL, e1, e2, hq, st⟩
  · dsimp only [Pt.U, Pt.locs, Pt.cells, Pt.slots] at X' e1 e2 h1 h2 h3 st hcl
    subst h1; subst h2; subst h3
    exact Or.inr ⟨q, (T.setVm vm₁).calling g' mk As.toArray, t, U', L, E, ce, hT, X', hL, e1, e2, hq, hce, hcv, vx_cls hW₁ hcl, st⟩
end Runs
section Rows
variable {p : Program} {l : Launch} {e : Env} {R : Room} {s : State} {m : MethodId} {args : Array Value} {below : List Frame} {meth : Method} {c : Code} {H : Heap} {locs : List Loc} {cells slots : Nat} {Q : State → Prop}
variable {mc ms : Nat} {free : Addr → Prop} {A0 A1 : Nat → Prop} {H0 : Heap} {a : Array Value} {pc : Nat} {ls : Array Slot} {st0 rest : List Value}
theorem vx_keep {st₀ t T' : State} {L : List Loc} (h0 : st₀.heap = H) (e1 : T'.heap = t.heap) (hS : va_S A0 H0 H locs) (hA : ∀ q, q < H.size → A1 q → A0 q) (hf : ∀ q, free q → A0 q) (hL : ∀ q ∈ L, free q.base) (hF : va_F A1 st₀ t) :
    H.size ≤ T'.heap.size ∧ (∀ q : Nat, q < H.size → ¬ A1 q → T'.heap[q]? = H[q]?) ∧ va_S A0 H0 T'.heap (locs ++ L) := by
  obtain ⟨hz, hk⟩ := hF
  rw [h0] at hz hk
  exact ⟨by rw [e1]; exact hz, fun q h1 h2 => by rw [e1]; exact hk q h1 h2,
    ⟨Nat.le_trans hS.1 (by rw [e1]; exact hz), fun q h1 h2 => by rw [e1, hk q (Nat.lt_of_lt_of_le h1 hS.1) (fun z => h2 (hA q (Nat.lt_of_lt_of_le h1 hS.1) z))]; exact hS.2.1 q h1 h2, fun q hq => by
      rcases List.mem_append.mp hq with h | h
      · exact hS.2.2 q h
      · exact hf _ (hL q h)⟩⟩
theorem vx_calli {S SX : Type} {post : Int32 → S → Prop} {px : SX → Prop} {B : S → State → Prop} {BX : String → SX → State → Prop} {AX : Nat → Prop} (hr : vx_Run p l e R s m args below meth c H locs cells slots mc ms (F0 m pc ls st0) rest (va_Qi post B A1 a) (vx_X px BX AX) free) (hS : va_S A0 H0 H locs) (hA : ∀ q, q < H.size → A1 q → A0 q) (hf : ∀ q, free q → A0 q) (hAX : ∀ q, q < H.size → AX q → A0 q)
    (kx : ∀ (E : String) (ce : Cell) (q9 : Addr) (u : SX) (t : State) (H1 : Heap) (locs1 : List Loc), t.heap = H1 → s.vm.Alike t.vm → px u → BX E u t → H.size ≤ H1.size → (∀ q : Nat, q < H.size → ¬ AX q → H1[q]? = H[q]?) → va_S A0 H0 H1 locs1 → H1[q9]? = some ce → ce.vm = .none → s.vm.findClass E = some ce.cls → vx_W p l e R s m args below meth c H1 locs1 (cells + mc) (slots + ms) Q (F0 m pc ls rest) q9)
    (kk : ∀ (r : Int32) (u : S) (t : State) (H1 : Heap) (locs1 : List Loc), t.heap = H1 → s.vm.Alike t.vm → post r u → B u t → H.size ≤ H1.size → (∀ q : Nat, q < H.size → ¬ A1 q → H1[q]? = H[q]?) → va_S A0 H0 H1 locs1 → W p l e R s m args below meth c H1 locs1 (cells + mc) (slots + ms) Q (F0 m (pc + 3) ls (.int r :: rest))) : W p l e R s m args below meth c H locs cells slots Q (F0 m pc ls st0) := by
  intro T hT X
  rcases hr T hT X with ⟨v, st₀, t, T', L, h0, X', hL, e1, e2, ⟨⟨r, u, hv, hp, hb⟩, hF⟩, st⟩ | ⟨q, st₀, t, T', L, E, ce, h0, X', hL, e1, e2, ⟨u, hp, hb, hF⟩, hce, hcv, hcl, st⟩
  · cases hv
    obtain ⟨k1, k2, k3⟩ := vx_keep h0 e1 hS hA hf hL hF
    obtain ⟨t2, a1, b1⟩ := kk r u t T'.heap (locs ++ L) e1.symm (by rw [← e2]; exact X'.warmed.alike) hp hb k1 k2 k3 T' rfl X'
    exact ⟨t2, st t2 a1, b1⟩
  · obtain ⟨k1, k2, k3⟩ := vx_keep h0 e1 hS hAX hf hL hF
    obtain ⟨t2, a1, b1⟩ := kx E ce q u t T'.heap (locs ++ L) e1.symm (by rw [← e2]; exact X'.warmed.alike) hp hb k1 k2 k3 (by rw [e1]; exact hce) hcv hcl T' rfl X'
    exact ⟨t2, st.trans a1, b1⟩
theorem vx_calll {S SX : Type} {post : Int64 → S → Prop} {px : SX → Prop} {B : S → State → Prop} {BX : String → SX → State → Prop} {AX : Nat → Prop} (hr : vx_Run p l e R s m args below meth c H locs cells slots mc ms (F0 m pc ls st0) rest (va_Ql post B A1 a) (vx_X px BX AX) free) (hS : va_S A0 H0 H locs) (hA : ∀ q, q < H.size → A1 q → A0 q) (hf : ∀ q, free q → A0 q) (hAX : ∀ q, q < H.size → AX q → A0 q)
    (kx : ∀ (E : String) (ce : Cell) (q9 : Addr) (u : SX) (t : State) (H1 : Heap) (locs1 : List Loc), t.heap = H1 → s.vm.Alike t.vm → px u → BX E u t → H.size ≤ H1.size → (∀ q : Nat, q < H.size → ¬ AX q → H1[q]? = H[q]?) → va_S A0 H0 H1 locs1 → H1[q9]? = some ce → ce.vm = .none → s.vm.findClass E = some ce.cls → vx_W p l e R s m args below meth c H1 locs1 (cells + mc) (slots + ms) Q (F0 m pc ls rest) q9)
    (kk : ∀ (r : Int64) (u : S) (t : State) (H1 : Heap) (locs1 : List Loc), t.heap = H1 → s.vm.Alike t.vm → post r u → B u t → H.size ≤ H1.size → (∀ q : Nat, q < H.size → ¬ A1 q → H1[q]? = H[q]?) → va_S A0 H0 H1 locs1 → W p l e R s m args below meth c H1 locs1 (cells + mc) (slots + ms) Q (F0 m (pc + 3) ls (.long r :: rest))) : W p l e R s m args below meth c H locs cells slots Q (F0 m pc ls st0) := by
  intro T hT X
  rcases hr T hT X with ⟨v, st₀, t, T', L, h0, X', hL, e1, e2, ⟨⟨r, u, hv, hp, hb⟩, hF⟩, st⟩ | ⟨q, st₀, t, T', L, E, ce, h0, X', hL, e1, e2, ⟨u, hp, hb, hF⟩, hce, hcv, hcl, st⟩
  · cases hv
    obtain ⟨k1, k2, k3⟩ := vx_keep h0 e1 hS hA hf hL hF
    obtain ⟨t2, a1, b1⟩ := kk r u t T'.heap (locs ++ L) e1.symm (by rw [← e2]; exact X'.warmed.alike) hp hb k1 k2 k3 T' rfl X'
    exact ⟨t2, st t2 a1, b1⟩
  · obtain ⟨k1, k2, k3⟩ := vx_keep h0 e1 hS hAX hf hL hF
    obtain ⟨t2, a1, b1⟩ := kx E ce q u t T'.heap (locs ++ L) e1.symm (by rw [← e2]; exact X'.warmed.alike) hp hb k1 k2 k3 (by rw [e1]; exact hce) hcv hcl T' rfl X'
    exact ⟨t2, st.trans a1, b1⟩
theorem vx_callf {S SX : Type} {post : UInt32 → S → Prop} {px : SX → Prop} {B : S → State → Prop} {BX : String → SX → State → Prop} {AX : Nat → Prop} (hr : vx_Run p l e R s m args below meth c H locs cells slots mc ms (F0 m pc ls st0) rest (va_Qf post B A1 a) (vx_X px BX AX) free) (hS : va_S A0 H0 H locs) (hA : ∀ q, q < H.size → A1 q → A0 q) (hf : ∀ q, free q → A0 q) (hAX : ∀ q, q < H.size → AX q → A0 q)
    (kx : ∀ (E : String) (ce : Cell) (q9 : Addr) (u : SX) (t : State) (H1 : Heap) (locs1 : List Loc), t.heap = H1 → s.vm.Alike t.vm → px u → BX E u t → H.size ≤ H1.size → (∀ q : Nat, q < H.size → ¬ AX q → H1[q]? = H[q]?) → va_S A0 H0 H1 locs1 → H1[q9]? = some ce → ce.vm = .none → s.vm.findClass E = some ce.cls → vx_W p l e R s m args below meth c H1 locs1 (cells + mc) (slots + ms) Q (F0 m pc ls rest) q9)
    (kk : ∀ (r : UInt32) (u : S) (t : State) (H1 : Heap) (locs1 : List Loc), t.heap = H1 → s.vm.Alike t.vm → post r u → B u t → H.size ≤ H1.size → (∀ q : Nat, q < H.size → ¬ A1 q → H1[q]? = H[q]?) → va_S A0 H0 H1 locs1 → W p l e R s m args below meth c H1 locs1 (cells + mc) (slots + ms) Q (F0 m (pc + 3) ls (.float r :: rest))) : W p l e R s m args below meth c H locs cells slots Q (F0 m pc ls st0) := by
  intro T hT X
  rcases hr T hT X with ⟨v, st₀, t, T', L, h0, X', hL, e1, e2, ⟨⟨r, u, hv, hp, hb⟩, hF⟩, st⟩ | ⟨q, st₀, t, T', L, E, ce, h0, X', hL, e1, e2, ⟨u, hp, hb, hF⟩, hce, hcv, hcl, st⟩
  · cases hv
    obtain ⟨k1, k2, k3⟩ := vx_keep h0 e1 hS hA hf hL hF
    obtain ⟨t2, a1, b1⟩ := kk r u t T'.heap (locs ++ L) e1.symm (by rw [← e2]; exact X'.warmed.alike) hp hb k1 k2 k3 T' rfl X'
    exact ⟨t2, st t2 a1, b1⟩
  · obtain ⟨k1, k2, k3⟩ := vx_keep h0 e1 hS hAX hf hL hF
    obtain ⟨t2, a1, b1⟩ := kx E ce q u t T'.heap (locs ++ L) e1.symm (by rw [← e2]; exact X'.warmed.alike) hp hb k1 k2 k3 (by rw [e1]; exact hce) hcv hcl T' rfl X'
    exact ⟨t2, st.trans a1, b1⟩
theorem vx_calld {S SX : Type} {post : UInt64 → S → Prop} {px : SX → Prop} {B : S → State → Prop} {BX : String → SX → State → Prop} {AX : Nat → Prop} (hr : vx_Run p l e R s m args below meth c H locs cells slots mc ms (F0 m pc ls st0) rest (va_Qd post B A1 a) (vx_X px BX AX) free) (hS : va_S A0 H0 H locs) (hA : ∀ q, q < H.size → A1 q → A0 q) (hf : ∀ q, free q → A0 q) (hAX : ∀ q, q < H.size → AX q → A0 q)
    (kx : ∀ (E : String) (ce : Cell) (q9 : Addr) (u : SX) (t : State) (H1 : Heap) (locs1 : List Loc), t.heap = H1 → s.vm.Alike t.vm → px u → BX E u t → H.size ≤ H1.size → (∀ q : Nat, q < H.size → ¬ AX q → H1[q]? = H[q]?) → va_S A0 H0 H1 locs1 → H1[q9]? = some ce → ce.vm = .none → s.vm.findClass E = some ce.cls → vx_W p l e R s m args below meth c H1 locs1 (cells + mc) (slots + ms) Q (F0 m pc ls rest) q9)
    (kk : ∀ (r : UInt64) (u : S) (t : State) (H1 : Heap) (locs1 : List Loc), t.heap = H1 → s.vm.Alike t.vm → post r u → B u t → H.size ≤ H1.size → (∀ q : Nat, q < H.size → ¬ A1 q → H1[q]? = H[q]?) → va_S A0 H0 H1 locs1 → W p l e R s m args below meth c H1 locs1 (cells + mc) (slots + ms) Q (F0 m (pc + 3) ls (.double r :: rest))) : W p l e R s m args below meth c H locs cells slots Q (F0 m pc ls st0) := by
  intro T hT X
  rcases hr T hT X with ⟨v, st₀, t, T', L, h0, X', hL, e1, e2, ⟨⟨r, u, hv, hp, hb⟩, hF⟩, st⟩ | ⟨q, st₀, t, T', L, E, ce, h0, X', hL, e1, e2, ⟨u, hp, hb, hF⟩, hce, hcv, hcl, st⟩
  · cases hv
    obtain ⟨k1, k2, k3⟩ := vx_keep h0 e1 hS hA hf hL hF
    obtain ⟨t2, a1, b1⟩ := kk r u t T'.heap (locs ++ L) e1.symm (by rw [← e2]; exact X'.warmed.alike) hp hb k1 k2 k3 T' rfl X'
    exact ⟨t2, st t2 a1, b1⟩
  · obtain ⟨k1, k2, k3⟩ := vx_keep h0 e1 hS hAX hf hL hF
    obtain ⟨t2, a1, b1⟩ := kx E ce q u t T'.heap (locs ++ L) e1.symm (by rw [← e2]; exact X'.warmed.alike) hp hb k1 k2 k3 (by rw [e1]; exact hce) hcv hcl T' rfl X'
    exact ⟨t2, st.trans a1, b1⟩
theorem vx_callv {S SX : Type} {post : S → Prop} {px : SX → Prop} {B : S → State → Prop} {BX : String → SX → State → Prop} {AX : Nat → Prop} (hr : vx_Run p l e R s m args below meth c H locs cells slots mc ms (F0 m pc ls st0) rest (va_Qv post B A1 a) (vx_X px BX AX) free) (hS : va_S A0 H0 H locs) (hA : ∀ q, q < H.size → A1 q → A0 q) (hf : ∀ q, free q → A0 q) (hAX : ∀ q, q < H.size → AX q → A0 q)
    (kx : ∀ (E : String) (ce : Cell) (q9 : Addr) (u : SX) (t : State) (H1 : Heap) (locs1 : List Loc), t.heap = H1 → s.vm.Alike t.vm → px u → BX E u t → H.size ≤ H1.size → (∀ q : Nat, q < H.size → ¬ AX q → H1[q]? = H[q]?) → va_S A0 H0 H1 locs1 → H1[q9]? = some ce → ce.vm = .none → s.vm.findClass E = some ce.cls → vx_W p l e R s m args below meth c H1 locs1 (cells + mc) (slots + ms) Q (F0 m pc ls rest) q9)
    (kk : ∀ (u : S) (t : State) (H1 : Heap) (locs1 : List Loc), t.heap = H1 → s.vm.Alike t.vm → post u → B u t → H.size ≤ H1.size → (∀ q : Nat, q < H.size → ¬ A1 q → H1[q]? = H[q]?) → va_S A0 H0 H1 locs1 → W p l e R s m args below meth c H1 locs1 (cells + mc) (slots + ms) Q (F0 m (pc + 3) ls (rest))) : W p l e R s m args below meth c H locs cells slots Q (F0 m pc ls st0) := by
  intro T hT X
  rcases hr T hT X with ⟨v, st₀, t, T', L, h0, X', hL, e1, e2, ⟨⟨u, hv, hp, hb⟩, hF⟩, st⟩ | ⟨q, st₀, t, T', L, E, ce, h0, X', hL, e1, e2, ⟨u, hp, hb, hF⟩, hce, hcv, hcl, st⟩
  · cases hv
    obtain ⟨k1, k2, k3⟩ := vx_keep h0 e1 hS hA hf hL hF
    obtain ⟨t2, a1, b1⟩ := kk u t T'.heap (locs ++ L) e1.symm (by rw [← e2]; exact X'.warmed.alike) hp hb k1 k2 k3 T' rfl X'
    exact ⟨t2, st t2 a1, b1⟩
  · obtain ⟨k1, k2, k3⟩ := vx_keep h0 e1 hS hAX hf hL hF
    obtain ⟨t2, a1, b1⟩ := kx E ce q u t T'.heap (locs ++ L) e1.symm (by rw [← e2]; exact X'.warmed.alike) hp hb k1 k2 k3 (by rw [e1]; exact hce) hcv hcl T' rfl X'
    exact ⟨t2, st.trans a1, b1⟩
/-- caught by the row x of this method's table; the rows ahead don't take it -/
theorem vx_catch {own name : String} {E : String} {ce : Cell} {q : Addr} (hown : s.vm.findClass own = some m.cls) (pre : List ExceptionTableEntry) (x : ExceptionTableEntry) (suf : List ExceptionTableEntry) (hsplit : c.exceptionTable.toList = pre ++ x :: suf)
    (hpass : ∀ z ∈ pre, covers z pc = false ∨ (z.catchType ≠ 0 ∧ ∃ nm : String, (Cond.classLink own z.catchType nm).before args s = true ∧ va_Nc E nm s)) (hx : covers x pc = true) (h0 : x.catchType ≠ 0)
    (hlink : (Cond.classLink own x.catchType name).before args s = true) (hcast : (Cond.castable E name).before args s = true) (hcell : H[q]? = some ce) (hv : ce.vm = .none) (hcl : s.vm.findClass E = some ce.cls)
    (kk : W p l e R s m args below meth c H locs cells slots Q (F0 m x.handlerPc ls [.ref q])) : vx_W p l e R s m args below meth c H locs cells slots Q (F0 m pc ls rest) q := by
  intro T hT X
  have hpl : e.platform.magicAccessors = ({} : Platform).magicAccessors := by rw [X.admits.platform]
  obtain ⟨c3, c4, hc3, hc4, hasg⟩ := Cond.castable_spec hcast
  cases Option.some.inj (hc3.symm.trans hcl)
  obtain ⟨c5, hc5, hcl5⟩ := Cond.classLink_spec hown hlink e.platform hpl
  cases Option.some.inj (hc4.symm.trans hc5)
  obtain ⟨vm', X', st⟩ := X.thenCaughtThrough q (g := F0 m pc ls rest) rfl (Steps.refl _) (by rw [hT]; exact hcell) (by rw [hv]; rfl) (by obtain ⟨k9, h9, -⟩ := Vm.findClass_spec hcl; exact ⟨k9, h9⟩) pre x suf hsplit
    (fun z hz => by
      rcases hpass z hz with h | ⟨hz0, nm, hl1, hn1⟩
      · exact Or.inl h
      · obtain ⟨c6, hc6, hcl6⟩ := Cond.classLink_spec hown hl1 e.platform hpl
        obtain ⟨a8, b8, h1, h2, h3⟩ := hn1
        cases Option.some.inj (h1.symm.trans hcl)
        cases Option.some.inj (h2.symm.trans hc6)
        exact Or.inr ⟨hz0, _, hcl6, h3⟩) hx (Or.inr ⟨h0, c4, hcl5, hasg⟩)
  obtain ⟨t, a1, b1⟩ := kk (T.setVm vm') hT X'
  exact ⟨t, st.trans a1, b1⟩
end Rows
section Ends
variable {p : Program} {l : Launch} {e : Env} {R : Room} {s : State} {m : MethodId} {args : Array Value} {below : List Frame} {meth : Method} {c : Code} {H : Heap} {locs : List Loc} {cells slots : Nat} {Q : State → Prop}
variable {mc ms : Nat} {free : Addr → Prop} {A0 A1 : Nat → Prop} {H0 : Heap} {a : Array Value} {ls : Array Slot} {st0 rest : List Value}
variable {Qc : Array Value → State → Outcome → State → Prop} {XC : String → State → State → Prop}
/-- what a body that may throw owes at its end -/
def vx_MQ (below : List Frame) (Qc : Array Value → State → Outcome → State → Prop) (XC : String → State → State → Prop) (a : Array Value) (s : State) (mc ms : Nat) (free : Addr → Prop) : State → Prop := fun t =>
  ∃ o, t.status = .running ∧ Ended t below o ∧ vx_Q Qc XC mc ms free a s o t
theorem vx_ret {g : JFrame} {mc ms : Nat} (k : W p l e R s m args below meth c H locs cells slots (MQ below Qc args s mc ms free) g) : W p l e R s m args below meth c H locs cells slots (vx_MQ below Qc XC args s mc ms free) g := by
  intro T hT X
  obtain ⟨t, a1, o, b1, b2, b3, b4⟩ := k T hT X
  exact ⟨t, a1, o, b1, b2, Or.inl ⟨b3, b4⟩⟩
/-- not caught here: it goes on to the caller -/
theorem vx_widen {g : JFrame} {q : Addr} {k n : Nat} (h1 : cells ≤ k) (h2 : slots ≤ n) (kk : vx_W p l e R s m args below meth c H locs k n Q g q) : vx_W p l e R s m args below meth c H locs cells slots Q g q := fun T hT X => kk T hT (stand_widen X h1 h2)
theorem vx_out {pc : Nat} {E : String} {ce : Cell} {q : Addr} {mc ms : Nat} (hout : ∀ x ∈ c.exceptionTable.toList, covers x pc = false) (hlocks : meth.locks = false) (hcell : H[q]? = some ce) (hv : ce.vm = .none) (hcl : s.vm.findClass E = some ce.cls)
    (hx : ∀ t : State, t.heap = H → s.vm.Alike t.vm → XC E s t) (hf : ∀ z ∈ locs, free z.base) (hc : cells ≤ mc) (hs : slots ≤ ms) :
    vx_W p l e R s m args below meth c H locs cells slots (vx_MQ below Qc XC args s mc ms free) (F0 m pc ls rest) q := by
  intro T hT X
  obtain ⟨st1, hrun, hend, hW, hsm⟩ := X.leaveThrown q (g := F0 m pc ls rest) rfl rfl rfl hout hlocks
  have hcell9 : (T.setFrames (.throwing q :: below)).heap[q]? = some ce := by
    show T.heap[q]? = some ce
    rw [hT]; exact hcell
  exact ⟨_, st1, .threw q, hrun, hend, Or.inr ⟨q, rfl, E, ce, locs, hx _ hT hW.alike, hcell9, hv, hcl, hW, hsm.mono hc hs, hf⟩⟩
theorem vx_frame {U : State} {k n : Nat} (h : s.sameButNew ({ U with vm := s.vm } : State) locs k n) : s.heap.size ≤ U.heap.size ∧ ∀ q : Nat, q < s.heap.size → (∀ z ∈ locs, z.base ≠ q) → U.heap[q]? = s.heap[q]? := by
  obtain ⟨-, h2, -, -, -, h6⟩ := h
  refine ⟨h2, fun q hq hz => ?_⟩
  obtain ⟨c9, e1, e2, e3, e4⟩ := h6 q _ (Array.getElem?_eq_getElem hq)
  have hs : c9.slots = (s.heap[q]).slots := Array.ext_getElem? fun i => e4 i fun hm => hz _ hm rfl
  have h9 : c9 = s.heap[q] := by
    rw [hs] at e2
    exact e2
  have e5 : U.heap[q]? = some c9 := e1
  rw [e5, h9, Array.getElem?_eq_getElem hq]
/-- the words of a throw but the four that speak of the heap -/
def vx_no (w : Cond) : Bool := decide (w ≠ .isRef (.static Bundle.tN "UNASSIGNED_STACK" Bundle.steD)) && decide (w ≠ .isRef (.static Bundle.tN "SUPPRESSED_SENTINEL" Bundle.listD)) && decide (w ≠ .laysStatic Bundle.tN "UNASSIGNED_STACK" Bundle.steD) && decide (w ≠ .laysStatic Bundle.tN "SUPPRESSED_SENTINEL" Bundle.listD)
def vx_at0 (own : String) (ic : Nat) (X : String) (names : List String) : List Cond := (Bundle.ownAtoms0 own ic X names).filter vx_no
def vx_atS (own : String) (ic : Nat) (X : String) (names : List String) : List Cond := (Bundle.ownAtoms own ic X names).filter vx_no
/-- a word that the tables alone decide, or a good one -/
def vx_ot (w : Cond) : Bool := w.onTables || goodWord w
theorem vx_ot_at {args a' : Array Value} {s U : State} {w : Cond} (hW : s.WarmedH U.vm) (hvm : s.vm = U.vm) (hg : vx_ot w = true) (h : w.before args s = true) : w.before a' U = true := by
  simp only [vx_ot, Bool.or_eq_true] at hg
  rcases hg with hg | hg
  · exact va_tabs hg hvm h
  · exact word_at hW (good_of_word hg) h
/-- a list's words: the good ones out of the method's own list, the others by premises of their own -/
theorem vx_hat {args : Array Value} {s : State} {L B : List Cond} (h1 : ∀ w ∈ L.filter goodWord, w.before args s = true) (h2 : ∀ w ∈ L.filter (fun w => !goodWord w), w ∈ B) (h3 : ∀ w ∈ B, w.before args s = true) : ∀ w ∈ L, w.before args s = true := by
  intro w hw
  by_cases g : goodWord w = true
  · exact h1 w (List.mem_filter.mpr ⟨hw, g⟩)
  · refine h3 w (h2 w (List.mem_filter.mpr ⟨hw, ?_⟩))
    show (!goodWord w) = true
    cases hgw : goodWord w
    · rfl
    · exact absurd hgw g
theorem vx_c {args : Array Value} {s : State} {w : Cond} {B : List Cond} (h : w.before args s = true) (t : ∀ w ∈ B, w.before args s = true) : ∀ w' ∈ w :: B, w'.before args s = true := fun w' h' => (List.mem_cons.mp h').elim (fun e => by rw [e]; exact h) (t w')
theorem vx_n {args : Array Value} {s : State} : ∀ w ∈ ([] : List Cond), w.before args s = true := fun _ h => nomatch h
theorem vx_own {args : Array Value} {s : State} {L : List Cond} (h1 : ∀ w ∈ L.filter vx_no, w.before args s = true)
    (hU : (Cond.isRef (.static Bundle.tN "UNASSIGNED_STACK" Bundle.steD)).before args s = true) (hN : (Cond.isRef (.static Bundle.tN "SUPPRESSED_SENTINEL" Bundle.listD)).before args s = true)
    (lU : (Cond.laysStatic Bundle.tN "UNASSIGNED_STACK" Bundle.steD).before args s = true) (lN : (Cond.laysStatic Bundle.tN "SUPPRESSED_SENTINEL" Bundle.listD).before args s = true) : ∀ w ∈ L, w.before args s = true := by
  intro w hw
  by_cases e1 : w = .isRef (.static Bundle.tN "UNASSIGNED_STACK" Bundle.steD)
  · rw [e1]; exact hU
  · by_cases e2 : w = .isRef (.static Bundle.tN "SUPPRESSED_SENTINEL" Bundle.listD)
    · rw [e2]; exact hN
    · by_cases e3 : w = .laysStatic Bundle.tN "UNASSIGNED_STACK" Bundle.steD
      · rw [e3]; exact lU
      · by_cases e4 : w = .laysStatic Bundle.tN "SUPPRESSED_SENTINEL" Bundle.listD
        · rw [e4]; exact lN
        · exact h1 w (List.mem_filter.mpr ⟨hw, by unfold vx_no; rw [decide_eq_true e1, decide_eq_true e2, decide_eq_true e3, decide_eq_true e4]; rfl⟩)
/-- where a static field lies, its class's statics cell in H -/
def vx_L (C n d : String) (A : Nat → Prop) (U : State) (H : Heap) : Prop := ∃ (c : ClassId) (k : Class) (i : Nat) (f : Field) (a : Nat) (cell : Cell), U.vm.findClass C = some c ∧ U.fieldFound? C n d = some (c, k, i, f) ∧ f.isStatic = true ∧ k.statics = some a ∧ H[a]? = some cell ∧ cell.vm.isStatics = true ∧ cell.cls = c ∧ f.slot < cell.slots.size ∧ k.staticTypes[f.slot]? = some f.type ∧ ¬ A a
theorem vx_L.moved {C n d : String} {A : Nat → Prop} {u U : State} {H : Heap} (hvm : u.vm.Alike U.vm) (h : vx_L C n d A u H) : vx_L C n d A U H := by
  obtain ⟨c, k, i, f, a, cell, h1, h2, h3, h4, h5, h6, h7, h8, h9, h10⟩ := h
  obtain ⟨k', hi', he⟩ := State.fieldFound?_setVm hvm h2
  exact ⟨c, k', i, f, a, cell, by rw [hvm.findClass]; exact h1, hi', h3, by rw [he]; exact h4, h5, h6, h7, h8, by rw [he]; exact h9, h10⟩
theorem vx_L.kept {C n d : String} {A : Nat → Prop} {U : State} {H H1 : Heap} (h : vx_L C n d A U H) (hq : ∀ a : Nat, a < H.size → ¬ A a → H1[a]? = H[a]?) : vx_L C n d A U H1 := by
  obtain ⟨c, k, i, f, a, cell, h1, h2, h3, h4, h5, h6, h7, h8, h9, h10⟩ := h
  exact ⟨c, k, i, f, a, cell, h1, h2, h3, h4, by rw [hq a (Array.getElem?_eq_some_iff.mp h5).1 h10]; exact h5, h6, h7, h8, h9, h10⟩
theorem vx_L.narrow {C n d : String} {A B : Nat → Prop} {U : State} {H : Heap} (h : vx_L C n d A U H) (hAB : ∀ q, B q → A q) : vx_L C n d B U H := by
  obtain ⟨c, k, i, f, a, cell, h1, h2, h3, h4, h5, h6, h7, h8, h9, h10⟩ := h
  exact ⟨c, k, i, f, a, cell, h1, h2, h3, h4, h5, h6, h7, h8, h9, fun z => h10 (hAB _ z)⟩
theorem vx_L.word {C n d : String} {A : Nat → Prop} {s : State} {args : Array Value} (h : vx_L C n d A s s.heap) : (Cond.laysStatic C n d).before args s = true := by
  obtain ⟨c, k, i, f, a, cell, h1, h2, h3, h4, h5, h6, h7, h8, h9, -⟩ := h
  show (Cond.laysStatic C n d).holds args s none s [] = true
  exact Cond.laysStatic_of h1 h2 h3 h4 h5 h6 h7 h8 h9
/-- .. and what it holds: null or some reference -/
def vx_Zq (C n d : String) (A : Nat → Prop) (U : State) (H : Heap) : Prop := va_Zq C n d A U H ∧ vx_L C n d A U H
theorem vx_Zq.moved {C n d : String} {A : Nat → Prop} {u U : State} {H : Heap} (hvm : u.vm.Alike U.vm) (h : vx_Zq C n d A u H) : vx_Zq C n d A U H := ⟨va_Zq.moved hvm h.1, vx_L.moved hvm h.2⟩
theorem vx_Zq.kept {C n d : String} {A : Nat → Prop} {U : State} {H H1 : Heap} (h : vx_Zq C n d A U H) (hq : ∀ a : Nat, a < H.size → ¬ A a → H1[a]? = H[a]?) : vx_Zq C n d A U H1 := ⟨va_Zq.kept h.1 hq, vx_L.kept h.2 hq⟩
theorem vx_Zq.narrow {C n d : String} {A B : Nat → Prop} {U : State} {H : Heap} (h : vx_Zq C n d A U H) (hAB : ∀ q, B q → A q) : vx_Zq C n d B U H := ⟨va_Zq.narrow h.1 hAB, vx_L.narrow h.2 hAB⟩
theorem vx_Zqof {args : Array Value} {s : State} {C n d : String} {A : Nat → Prop} (hl : (Cond.laysStatic C n d).before args s = true) (hini : (Cond.initialized C).before args s = true) (h : (Cond.isRef (.static C n d)).before args s = true) (hA : ∀ a : Nat, a < s.heap.size → ¬ A a) : vx_Zq C n d A s s.heap := by
  refine ⟨va_Zqof hl hini h hA, ?_⟩
  obtain ⟨c, k, i, f, a, cell, h1, h2, h3, h4, h5, h6, h7, h8, h9⟩ := Cond.laysStatic_spec hl
  exact ⟨c, k, i, f, a, cell, h1, h2, h3, h4, h5, h6, h7, h8, h9, hA a (Array.getElem?_eq_some_iff.mp h5).1⟩
theorem vx_isRef {C n d : String} {v : Value} {A : Nat → Prop} {s : State} {args : Array Value} (h : va_Z C n d v A s s.heap) (hv : v.isRef = true) : (Cond.isRef (.static C n d)).before args s = true := by
  obtain ⟨cf, kf, fi, f, a, cell, h1, h2, h3, h4, h5, h6, h7, -⟩ := h
  have he : (Term.static C n d).eval args s none [] s = some v := by
    simp [Term.eval, State.fieldNamed?, h1, h2, h4, h5, h6, h7]
  simp only [Cond.before, Cond.holds, Cond.value, he]
  cases v <;> simp_all [Value.isRef]
theorem vx_isRefq {C n d : String} {A : Nat → Prop} {s : State} {args : Array Value} (h : va_Zq C n d A s s.heap) : (Cond.isRef (.static C n d)).before args s = true := by
  rcases h with h | ⟨t, h⟩
  · exact vx_isRef h rfl
  · exact vx_isRef h rfl
/-- the same frame, seen from here: as if the method were called anew in this heap -/
theorem vx_rebase {T : State} (X : Stand p l e R s m args below meth c T locs cells slots) {R' : Room} (hf : R'.frames ≤ R.frames) (hl : R'.locals ≤ R.locals) (hc : cells + R'.cells ≤ R.cells) (hs : slots + R'.slots ≤ R.slots) :
    Stand p l e R' ((T.setVm s.vm).setFrames (.invoking m args :: below)) m args below meth c T [] 0 0 := by
  have htop : (T.setVm s.vm).topJava?.isSome := X.here.top
  have hF : ((T.setVm s.vm).setFrames (.invoking m args :: below)).frames = .invoking m args :: below := State.frames_setFrames _ (State.cur_lt_of_top htop)
  obtain ⟨g₀, hg0⟩ := Option.isSome_iff_exists.mp htop
  obtain ⟨r, hr⟩ := State.topJava?_eq_some.mp hg0
  have hl9 : e.platform.stackLimits (T.setVm s.vm).me = e.platform.stackLimits s.me := X.limits
  have hb9 : (T.setVm s.vm).me.stackBytes = s.me.stackBytes := X.bytes
  refine ⟨X.admits, X.cas, X.clock, hF, ?_, X.hears, X.method, X.code, X.here, X.tail, X.warmed, ?_, ?_, ?_⟩
  · have h := X.room
    have hU : ((T.setVm s.vm).setFrames (.invoking m args :: below)).localsInUse = s.localsInUse := by
      rw [State.localsInUse_invoking hF (meth := meth) (c := c) X.method X.code, State.localsInUse_invoking X.frames X.method X.code]
    simp only [State.hasRoom, Bool.and_eq_true, decide_eq_true_eq] at h ⊢
    obtain ⟨⟨⟨⟨h1, h2, h3, h4, h5, h6⟩, h7⟩, h8⟩, h9⟩ := h
    rw [X.frames, List.length_cons] at h2 h3
    have q1 := X.heapSize
    have q2 := X.used
    simp only [hF, hU, List.length_cons, State.stackLimits_setFrames, State.stackBytes_setFrames, hl9, hb9]
    refine ⟨⟨⟨⟨by omega, by omega, by omega, by omega, by omega, h6⟩, ?_⟩, ?_⟩, X.book⟩
    · show T.heap.size + R'.cells ≤ e.platform.maxCells
      omega
    · show T.slotsUsed + R'.slots ≤ e.platform.maxSlots
      omega
  · rw [State.stackLimits_setFrames]; rfl
  · rw [State.stackBytes_setFrames]; rfl
  · refine ⟨?_, Nat.le_refl _, Nat.le_refl _, ?_, ?_, fun a c9 h9 => ⟨c9, h9, rfl, rfl, fun _ _ => rfl⟩⟩
    · obtain ⟨t, ht, -⟩ := State.frames_cons hr
      show T.setVm s.vm = { ((T.setVm s.vm).setFrames (.invoking m args :: below)).setFrames (T.setVm s.vm).frames with heap := T.heap, slotsUsed := T.slotsUsed }
      rw [State.setFrames_setFrames, State.setFrames_self ht]
      rfl
    · show T.slotsUsed = T.slotsUsed + ((T.heap.toList.drop T.heap.size).map (·.slots.size)).sum
      rw [List.drop_eq_nil_of_le (Nat.le_of_eq Array.length_toList)]
      rfl
    · show ((T.heap.toList.drop T.heap.size).map (·.slots.size)).sum ≤ 0
      rw [List.drop_eq_nil_of_le (Nat.le_of_eq Array.length_toList)]
      exact Nat.le_refl _
/-- 'throw new E()': new; dup; invokespecial; athrow -/
theorem vx_throw0 {cc : ByteArray} {pc : Nat} (hexec : p.tables.exec = Jvm.exec) (hb : c.code = cc) (hl : l.stackTraces = false) {own cls : String} {names : List String} {ik ic mc ms : Nat} {A : Nat → Prop}
    (hown : s.vm.findClass own = some m.cls) (hcls : Bundle.fit cls = true) (hnames : ∀ n ∈ names, Bundle.fit n = true)
    (hk : (Cond.classLink own ik cls).before args s = true) (hini : (Cond.initialized cls).before args s = true) (hat : ∀ w ∈ vx_at0 own ic cls names, w.before args s = true)
    (hgood : ∀ w ∈ Cond.classLink own ik cls :: Cond.initialized cls :: vx_at0 own ic cls names, vx_ot w = true)
    (hU : vx_Zq Bundle.tN "UNASSIGNED_STACK" Bundle.steD A s s.heap) (hN : vx_Zq Bundle.tN "SUPPRESSED_SENTINEL" Bundle.listD A s s.heap) (hS : va_S A s.heap H locs) (hsize : ls.size = c.maxLocals)
    (d0 : decode cc pc = .ok (.new ik, 3)) (d3 : decode cc (pc + 3) = .ok (.dup, 1)) (d4 : decode cc (pc + 4) = .ok (.invokespecial ic, 3)) (d7 : decode cc (pc + 7) = .ok (.athrow, 1))
    (hout : ∀ x ∈ c.exceptionTable.toList, covers x (pc + 7) = false)
    (hRframes : names.length + 3 < R.frames) (hRlocals : (rest.map fun v => v.category).sum + (13 * (names.length + 1) + 42) ≤ R.locals) (hRcells : cells + 1 ≤ R.cells) (hRslots : slots + 6 ≤ R.slots) (hlocks : meth.locks = false)
    (hx : ∀ t : State, s.vm.Alike t.vm → H.size ≤ t.heap.size → (∀ q : Nat, q < H.size → t.heap[q]? = H[q]?) → XC cls s t)
    (hf : ∀ z ∈ locs, free z.base) (hc : cells + 1 ≤ mc) (hs : slots + 6 ≤ ms) :
    W p l e R s m args below meth c H locs cells slots (vx_MQ below Qc XC args s mc ms free) (F0 m pc ls rest) := by
  intro T hT X
  have htr : e.platform.stackTraces = false := (show e.platform.stackTraces = l.stackTraces by rw [X.admits.platform]).trans hl
  have Y := vx_rebase X (R' := { frames := R.frames, locals := R.locals, cells := 1, slots := 6 }) (Nat.le_refl _) (Nat.le_refl _) hRcells hRslots
  obtain ⟨s', hA⟩ : ∃ z, z = (T.setVm s.vm).setFrames (.invoking m args :: below) := ⟨_, rfl⟩
  rw [← hA] at Y
  have hvm : s'.vm = s.vm := by rw [hA]; rfl
  have hhp : s'.heap = H := by rw [hA]; exact hT
  have hW0 : s.WarmedH s'.vm := by rw [hvm]; exact State.WarmedH.refl s
  have hat' : ∀ w ∈ vx_at0 own ic cls names, w.before args s' = true := fun w hw => vx_ot_at hW0 hvm.symm (hgood w (List.mem_cons_of_mem _ (List.mem_cons_of_mem _ hw))) (hat w hw)
  have hk' : (Cond.classLink own ik cls).before args s' = true := vx_ot_at hW0 hvm.symm (hgood _ List.mem_cons_self) hk
  have hini' : (Cond.initialized cls).before args s' = true := vx_ot_at hW0 hvm.symm (hgood _ (List.mem_cons_of_mem _ List.mem_cons_self)) hini
  have hU' : vx_Zq Bundle.tN "UNASSIGNED_STACK" Bundle.steD A s' s'.heap := by rw [hhp]; exact vx_Zq.moved hW0.alike (hU.kept hS.2.1)
  have hN' : vx_Zq Bundle.tN "SUPPRESSED_SENTINEL" Bundle.listD A s' s'.heap := by rw [hhp]; exact vx_Zq.moved hW0.alike (hN.kept hS.2.1)
  have h : ∀ w ∈ Bundle.ownAtoms0 own ic cls names, w.before args s' = true := vx_own hat' (vx_isRefq hU'.1) (vx_isRefq hN'.1) hU'.2.word hN'.2.word
  have hown' : s'.vm.findClass own = some m.cls := by rw [hvm]; exact hown
  have hins : (Cond.instantiable cls 6).before args s' = true := h _ (by simp [Bundle.ownAtoms0])
  obtain ⟨vm₁, cX, kX, hfX, hkX, -, -, X₁, st1⟩ := Y.newCold hexec (own := own) (C := cls) (index := ik) (n := 6) hown' hk' hins hini'
    (g := F0 m pc ls rest) rfl (by rw [hb]; exact d0) (Nat.le_refl _) (Nat.le_refl _)
  generalize hT1 : (T.setVm vm₁).pushCell { cls := cX, slots := kX.instanceTypes.map defaultValue, vm := .none } = T1 at X₁ st1
  have hcat : (Value.ref T.heap.size).category = 1 := rfl
  have hcellA : T1.heap[T.heap.size]? = some (freshCell cX kX) := by rw [← hT1]; exact State.heap_pushCell_size _ _
  have d3' : decode c.code (pc + 3) = .ok (.dup, 1) := by rw [hb]; exact d3
  obtain ⟨U, hsteps, hrun, hend, hW, hsame, ce, hce, hO⟩ := X₁.ctorThrow0 hexec htr (own := own) (cls := cls) (names := names) (ic := ic) hown' hcls hnames h (fun x hx => nomatch hx) hfX hkX hcellA (by rw [hhp, hT]; exact Nat.le_refl _)
    (g := { method := m, pc := pc + 4, locals := ls, stack := .ref T.heap.size :: .ref T.heap.size :: rest, locked := none }) rfl hsize rfl rfl (rest := rest) rfl
    (by rw [hb]; exact d4) (by rw [hb]; exact d7) hout hRframes (by simp only [List.map_cons, List.sum_cons, hcat]; omega) hlocks
  obtain ⟨f1, f2⟩ := vx_frame hsame
  rw [hhp] at f1 f2
  have hWs : s.WarmedH U.vm := State.WarmedH.trans hW0 hW
  have hcl : s.vm.findClass cls = some ce.cls := by
    have h9 := hO.cls
    rw [hvm] at h9
    exact h9
  have hall : s.sameButNew ({ U with vm := s.vm } : State) locs mc ms := by
    subst hA
    obtain ⟨e1, e2⟩ := hsame
    rw [State.setFrames_setFrames] at e1
    have h2 : (T.setVm s.vm).sameButNew ({ U with vm := s.vm } : State) [] (0 + 1) (0 + 6) := ⟨e1, e2⟩
    have h3 := X.same.trans h2
    rw [List.append_nil] at h3
    exact h3.mono hc hs
  refine ⟨U, ?_, .threw T.heap.size, hrun, hend, Or.inr ⟨T.heap.size, rfl, cls, ce, locs, hx U hWs.alike f1 (fun q hq => f2 q hq (fun z hz => nomatch hz)), hce, hO.vm, hcl, hWs, hall, hf⟩⟩
  refine st1 _ ?_
  show Steps p.tables e below (T1.setTop { method := m, pc := pc + 3, locals := ls, stack := .ref T.heap.size :: rest, locked := none }) _
  jvm_step X₁.here [X₁.here.top, hexec, d3', Value.category]
  exact hsteps
/-- 'throw new E("text")': new; dup; ldc; invokespecial; athrow -/
theorem vx_throwS {cc : ByteArray} {pc : Nat} (hexec : p.tables.exec = Jvm.exec) (hb : c.code = cc) (hl : l.stackTraces = false) {own cls text : String} {names : List String} {ik is ic mc ms sa : Nat} {A : Nat → Prop}
    (hown : s.vm.findClass own = some m.cls) (hcls : Bundle.fit cls = true) (hnames : ∀ n ∈ names, Bundle.fit n = true)
    (hk : (Cond.classLink own ik cls).before args s = true) (hini : (Cond.initialized cls).before args s = true) (hstr : vk_R own is text sa s) (hat : ∀ w ∈ vx_atS own ic cls names, w.before args s = true)
    (hgood : ∀ w ∈ Cond.classLink own ik cls :: Cond.initialized cls :: vx_atS own ic cls names, vx_ot w = true)
    (hU : vx_Zq Bundle.tN "UNASSIGNED_STACK" Bundle.steD A s s.heap) (hN : vx_Zq Bundle.tN "SUPPRESSED_SENTINEL" Bundle.listD A s s.heap) (hS : va_S A s.heap H locs) (hsize : ls.size = c.maxLocals)
    (d0 : decode cc pc = .ok (.new ik, 3)) (d3 : decode cc (pc + 3) = .ok (.dup, 1)) (d4 : decode cc (pc + 4) = .ok (.ldc is, 2)) (d6 : decode cc (pc + 6) = .ok (.invokespecial ic, 3)) (d9 : decode cc (pc + 9) = .ok (.athrow, 1))
    (hout : ∀ x ∈ c.exceptionTable.toList, covers x (pc + 9) = false)
    (hRframes : names.length + 3 < R.frames) (hRlocals : (rest.map fun v => v.category).sum + (13 * (names.length + 1) + 43) ≤ R.locals) (hRcells : cells + 1 ≤ R.cells) (hRslots : slots + 6 ≤ R.slots) (hlocks : meth.locks = false)
    (hx : ∀ t : State, s.vm.Alike t.vm → H.size ≤ t.heap.size → (∀ q : Nat, q < H.size → t.heap[q]? = H[q]?) → XC cls s t)
    (hf : ∀ z ∈ locs, free z.base) (hc : cells + 1 ≤ mc) (hs : slots + 6 ≤ ms) :
    W p l e R s m args below meth c H locs cells slots (vx_MQ below Qc XC args s mc ms free) (F0 m pc ls rest) := by
  intro T hT X
  have htr : e.platform.stackTraces = false := (show e.platform.stackTraces = l.stackTraces by rw [X.admits.platform]).trans hl
  have Y := vx_rebase X (R' := { frames := R.frames, locals := R.locals, cells := 1, slots := 6 }) (Nat.le_refl _) (Nat.le_refl _) hRcells hRslots
  obtain ⟨s', hA⟩ : ∃ z, z = (T.setVm s.vm).setFrames (.invoking m args :: below) := ⟨_, rfl⟩
  rw [← hA] at Y
  have hvm : s'.vm = s.vm := by rw [hA]; rfl
  have hhp : s'.heap = H := by rw [hA]; exact hT
  have hW0 : s.WarmedH s'.vm := by rw [hvm]; exact State.WarmedH.refl s
  have hat' : ∀ w ∈ vx_atS own ic cls names, w.before args s' = true := fun w hw => vx_ot_at hW0 hvm.symm (hgood w (List.mem_cons_of_mem _ (List.mem_cons_of_mem _ hw))) (hat w hw)
  have hk' : (Cond.classLink own ik cls).before args s' = true := vx_ot_at hW0 hvm.symm (hgood _ List.mem_cons_self) hk
  have hini' : (Cond.initialized cls).before args s' = true := vx_ot_at hW0 hvm.symm (hgood _ (List.mem_cons_of_mem _ List.mem_cons_self)) hini
  have hU' : vx_Zq Bundle.tN "UNASSIGNED_STACK" Bundle.steD A s' s'.heap := by rw [hhp]; exact vx_Zq.moved hW0.alike (hU.kept hS.2.1)
  have hN' : vx_Zq Bundle.tN "SUPPRESSED_SENTINEL" Bundle.listD A s' s'.heap := by rw [hhp]; exact vx_Zq.moved hW0.alike (hN.kept hS.2.1)
  have h : ∀ w ∈ Bundle.ownAtoms own ic cls names, w.before args s' = true := vx_own hat' (vx_isRefq hU'.1) (vx_isRefq hN'.1) hU'.2.word hN'.2.word
  have hown' : s'.vm.findClass own = some m.cls := by rw [hvm]; exact hown
  have hins : (Cond.instantiable cls 6).before args s' = true := h _ (by simp [Bundle.ownAtoms])
  obtain ⟨vm₁, cX, kX, hfX, hkX, -, -, X₁, st1⟩ := Y.newCold hexec (own := own) (C := cls) (index := ik) (n := 6) hown' hk' hins hini'
    (g := F0 m pc ls rest) rfl (by rw [hb]; exact d0) (Nat.le_refl _) (Nat.le_refl _)
  generalize hT1 : (T.setVm vm₁).pushCell { cls := cX, slots := kX.instanceTypes.map defaultValue, vm := .none } = T1 at X₁ st1
  have hcat : (Value.ref T.heap.size).category = 1 := rfl
  have hcellA : T1.heap[T.heap.size]? = some (freshCell cX kX) := by rw [← hT1]; exact State.heap_pushCell_size _ _
  have d3' : decode c.code (pc + 3) = .ok (.dup, 1) := by rw [hb]; exact d3
  have d4' : decode c.code (pc + 4) = .ok (.ldc is, 2) := by rw [hb]; exact d4
  have hstr' : vk_R own is text sa s' := vk_R.warm hW0 hstr
  obtain ⟨U, hsteps, hrun, hend, hW, hsame, ce, hce, hO⟩ := X₁.ctorThrowS hexec htr (own := own) (cls := cls) (names := names) (ic := ic) hown' hcls hnames h (fun x hx => nomatch hx) hfX hkX hcellA (by rw [hhp, hT]; exact Nat.le_refl _) (msg := .ref sa) rfl
    (g := { method := m, pc := pc + 6, locals := ls, stack := .ref sa :: .ref T.heap.size :: .ref T.heap.size :: rest, locked := none }) rfl hsize rfl rfl (rest := rest) rfl
    (by rw [hb]; exact d6) (by rw [hb]; exact d9) hout hRframes (by simp only [List.map_cons, List.sum_cons, hcat]; omega) hlocks
  obtain ⟨f1, f2⟩ := vx_frame hsame
  rw [hhp] at f1 f2
  have hWs : s.WarmedH U.vm := State.WarmedH.trans hW0 hW
  have hcl : s.vm.findClass cls = some ce.cls := by
    have h9 := hO.cls
    rw [hvm] at h9
    exact h9
  have hall : s.sameButNew ({ U with vm := s.vm } : State) locs mc ms := by
    subst hA
    obtain ⟨e1, e2⟩ := hsame
    rw [State.setFrames_setFrames] at e1
    have h2 : (T.setVm s.vm).sameButNew ({ U with vm := s.vm } : State) [] (0 + 1) (0 + 6) := ⟨e1, e2⟩
    have h3 := X.same.trans h2
    rw [List.append_nil] at h3
    exact h3.mono hc hs
  refine ⟨U, ?_, .threw T.heap.size, hrun, hend, Or.inr ⟨T.heap.size, rfl, cls, ce, locs, hx U hWs.alike f1 (fun q hq => f2 q hq (fun z hz => nomatch hz)), hce, hO.vm, hcl, hWs, hall, hf⟩⟩
  refine st1 _ ?_
  show Steps p.tables e below (T1.setTop { method := m, pc := pc + 3, locals := ls, stack := .ref T.heap.size :: rest, locked := none }) _
  jvm_step X₁.here [X₁.here.top, hexec, d3', Value.category]
  exact X₁.ldcString hexec (own := own) (text := text) (index := is) (a := sa) hown' hstr'.1 hstr'.2
    (g := { method := m, pc := pc + 4, locals := ls, stack := .ref T.heap.size :: .ref T.heap.size :: rest, locked := none }) rfl d4' _ hsteps
/-- 'throw new E("text")', the text by a wide index -/
theorem vx_throwSW {cc : ByteArray} {pc : Nat} (hexec : p.tables.exec = Jvm.exec) (hb : c.code = cc) (hl : l.stackTraces = false) {own cls text : String} {names : List String} {ik is ic mc ms sa : Nat} {A : Nat → Prop}
    (hown : s.vm.findClass own = some m.cls) (hcls : Bundle.fit cls = true) (hnames : ∀ n ∈ names, Bundle.fit n = true)
    (hk : (Cond.classLink own ik cls).before args s = true) (hini : (Cond.initialized cls).before args s = true) (hstr : vk_R own is text sa s) (hat : ∀ w ∈ vx_atS own ic cls names, w.before args s = true)
    (hgood : ∀ w ∈ Cond.classLink own ik cls :: Cond.initialized cls :: vx_atS own ic cls names, vx_ot w = true)
    (hU : vx_Zq Bundle.tN "UNASSIGNED_STACK" Bundle.steD A s s.heap) (hN : vx_Zq Bundle.tN "SUPPRESSED_SENTINEL" Bundle.listD A s s.heap) (hS : va_S A s.heap H locs) (hsize : ls.size = c.maxLocals)
    (d0 : decode cc pc = .ok (.new ik, 3)) (d3 : decode cc (pc + 3) = .ok (.dup, 1)) (d4 : decode cc (pc + 4) = .ok (.ldc_w is, 3)) (d7 : decode cc (pc + 7) = .ok (.invokespecial ic, 3)) (d10 : decode cc (pc + 10) = .ok (.athrow, 1))
    (hout : ∀ x ∈ c.exceptionTable.toList, covers x (pc + 10) = false)
    (hRframes : names.length + 3 < R.frames) (hRlocals : (rest.map fun v => v.category).sum + (13 * (names.length + 1) + 43) ≤ R.locals) (hRcells : cells + 1 ≤ R.cells) (hRslots : slots + 6 ≤ R.slots) (hlocks : meth.locks = false)
    (hx : ∀ t : State, s.vm.Alike t.vm → H.size ≤ t.heap.size → (∀ q : Nat, q < H.size → t.heap[q]? = H[q]?) → XC cls s t)
    (hf : ∀ z ∈ locs, free z.base) (hc : cells + 1 ≤ mc) (hs : slots + 6 ≤ ms) :
    W p l e R s m args below meth c H locs cells slots (vx_MQ below Qc XC args s mc ms free) (F0 m pc ls rest) := by
  intro T hT X
  have htr : e.platform.stackTraces = false := (show e.platform.stackTraces = l.stackTraces by rw [X.admits.platform]).trans hl
  have Y := vx_rebase X (R' := { frames := R.frames, locals := R.locals, cells := 1, slots := 6 }) (Nat.le_refl _) (Nat.le_refl _) hRcells hRslots
  obtain ⟨s', hA⟩ : ∃ z, z = (T.setVm s.vm).setFrames (.invoking m args :: below) := ⟨_, rfl⟩
  rw [← hA] at Y
  have hvm : s'.vm = s.vm := by rw [hA]; rfl
  have hhp : s'.heap = H := by rw [hA]; exact hT
  have hW0 : s.WarmedH s'.vm := by rw [hvm]; exact State.WarmedH.refl s
  have hat' : ∀ w ∈ vx_atS own ic cls names, w.before args s' = true := fun w hw => vx_ot_at hW0 hvm.symm (hgood w (List.mem_cons_of_mem _ (List.mem_cons_of_mem _ hw))) (hat w hw)
  have hk' : (Cond.classLink own ik cls).before args s' = true := vx_ot_at hW0 hvm.symm (hgood _ List.mem_cons_self) hk
  have hini' : (Cond.initialized cls).before args s' = true := vx_ot_at hW0 hvm.symm (hgood _ (List.mem_cons_of_mem _ List.mem_cons_self)) hini
  have hU' : vx_Zq Bundle.tN "UNASSIGNED_STACK" Bundle.steD A s' s'.heap := by rw [hhp]; exact vx_Zq.moved hW0.alike (hU.kept hS.2.1)
  have hN' : vx_Zq Bundle.tN "SUPPRESSED_SENTINEL" Bundle.listD A s' s'.heap := by rw [hhp]; exact vx_Zq.moved hW0.alike (hN.kept hS.2.1)
  have h : ∀ w ∈ Bundle.ownAtoms own ic cls names, w.before args s' = true := vx_own hat' (vx_isRefq hU'.1) (vx_isRefq hN'.1) hU'.2.word hN'.2.word
  have hown' : s'.vm.findClass own = some m.cls := by rw [hvm]; exact hown
  have hins : (Cond.instantiable cls 6).before args s' = true := h _ (by simp [Bundle.ownAtoms])
  obtain ⟨vm₁, cX, kX, hfX, hkX, -, -, X₁, st1⟩ := Y.newCold hexec (own := own) (C := cls) (index := ik) (n := 6) hown' hk' hins hini'
    (g := F0 m pc ls rest) rfl (by rw [hb]; exact d0) (Nat.le_refl _) (Nat.le_refl _)
  generalize hT1 : (T.setVm vm₁).pushCell { cls := cX, slots := kX.instanceTypes.map defaultValue, vm := .none } = T1 at X₁ st1
  have hcat : (Value.ref T.heap.size).category = 1 := rfl
  have hcellA : T1.heap[T.heap.size]? = some (freshCell cX kX) := by rw [← hT1]; exact State.heap_pushCell_size _ _
  have d3' : decode c.code (pc + 3) = .ok (.dup, 1) := by rw [hb]; exact d3
  have d4' : decode c.code (pc + 4) = .ok (.ldc_w is, 3) := by rw [hb]; exact d4
  have hstr' : vk_R own is text sa s' := vk_R.warm hW0 hstr
  obtain ⟨U, hsteps, hrun, hend, hW, hsame, ce, hce, hO⟩ := X₁.ctorThrowS hexec htr (own := own) (cls := cls) (names := names) (ic := ic) hown' hcls hnames h (fun x hx => nomatch hx) hfX hkX hcellA (by rw [hhp, hT]; exact Nat.le_refl _) (msg := .ref sa) rfl
    (g := { method := m, pc := pc + 7, locals := ls, stack := .ref sa :: .ref T.heap.size :: .ref T.heap.size :: rest, locked := none }) rfl hsize rfl rfl (rest := rest) rfl
    (by rw [hb]; exact d7) (by rw [hb]; exact d10) hout hRframes (by simp only [List.map_cons, List.sum_cons, hcat]; omega) hlocks
  obtain ⟨f1, f2⟩ := vx_frame hsame
  rw [hhp] at f1 f2
  have hWs : s.WarmedH U.vm := State.WarmedH.trans hW0 hW
  have hcl : s.vm.findClass cls = some ce.cls := by
    have h9 := hO.cls
    rw [hvm] at h9
    exact h9
  have hall : s.sameButNew ({ U with vm := s.vm } : State) locs mc ms := by
    subst hA
    obtain ⟨e1, e2⟩ := hsame
    rw [State.setFrames_setFrames] at e1
    have h2 : (T.setVm s.vm).sameButNew ({ U with vm := s.vm } : State) [] (0 + 1) (0 + 6) := ⟨e1, e2⟩
    have h3 := X.same.trans h2
    rw [List.append_nil] at h3
    exact h3.mono hc hs
  refine ⟨U, ?_, .threw T.heap.size, hrun, hend, Or.inr ⟨T.heap.size, rfl, cls, ce, locs, hx U hWs.alike f1 (fun q hq => f2 q hq (fun z hz => nomatch hz)), hce, hO.vm, hcl, hWs, hall, hf⟩⟩
  refine st1 _ ?_
  show Steps p.tables e below (T1.setTop { method := m, pc := pc + 3, locals := ls, stack := .ref T.heap.size :: rest, locked := none }) _
  jvm_step X₁.here [X₁.here.top, hexec, d3', Value.category]
  exact X₁.ldcStringW hexec (own := own) (text := text) (index := is) (a := sa) hown' hstr'.1 hstr'.2
    (g := { method := m, pc := pc + 4, locals := ls, stack := .ref T.heap.size :: .ref T.heap.size :: rest, locked := none }) rfl d4' _ hsteps
end Ends
section Bodies
variable {l : Launch}
theorem vx_ofW {y : MethodName} {ws ws' : List Cond} {rm : Room} {Pc : Array Value → State → Prop} {Qc : Array Value → State → Outcome → State → Prop} {XC : String → State → State → Prop} {mc ms : Nat} {free : Addr → Prop} {cc : ByteArray} {maxL : Nat} {ret : Option FieldType}
    (hy : plainName y.cls = true) (hw : ws = Cond.code y cc maxL ret :: ws')
    (body : ∀ p e s m args below meth c s₁, BodyLoose p l y (headSpec ws rm) cc maxL ret e s m args below meth c s₁ → c.maxLocals = maxL → (∀ x ∈ c.exceptionTable.toList, False) → Pc args s →
      W p l e (headSpec ws rm).room s m args below meth c s.heap [] 0 0 (vx_MQ below Qc XC args s mc ms free) (entryFrame m args maxL)) : vx_Met l y ws rm Pc Qc XC mc ms free := by
  refine MetFree.of_bodyS (code := cc) (maxLocals := maxL) (ret := ret) hy ?_ ?_
  · intro args s m h hn
    obtain ⟨meth, c, h1, h2, h3, h4, h5, h6, -, -⟩ := Cond.code_spec hn (atoms_spec (ws := ws) h _ (by rw [hw]; exact List.mem_cons_self))
    exact ⟨meth, c, h1, h2, h3, h4, h5, h6⟩
  · intro p e s m args below meth c s₁ B hml hP _
    have hh0 : s₁.heap = s.heap := by rw [B.state]; rfl
    have ht : ∀ x ∈ c.exceptionTable.toList, False := by
      obtain ⟨meth9, c9, h1, h2, -, -, -, -, h7, -⟩ := Cond.code_spec B.named (atoms_spec (ws := ws) B.pre _ (by rw [hw]; exact List.mem_cons_self))
      cases Option.some.inj (h1.symm.trans B.method)
      cases Option.some.inj (h2.symm.trans (Stand.of_body B).code)
      intro x hx
      rw [Array.isEmpty_iff.mp h7] at hx
      cases hx
    obtain ⟨t, a1, o, b1, b2, b3⟩ := body p e s m args below meth c s₁ B hml ht hP s₁ hh0 (Stand.of_body B)
    exact ⟨t, o, a1, b1, b2, b3⟩
/-- the table of a body with handlers -/
theorem vx_table {p : Program} {x y : MethodName} {S : Spec} {cc bytes : ByteArray} {maxL maxL' : Nat} {ret ret' : Option FieldType} {e : Env} {s s₁ : State} {m : MethodId} {args : Array Value} {below : List Frame} {meth : Method} {c : Code} {hh : List (Nat × Nat × Nat × Nat)}
    (B : BodyLoose p l y S cc maxL ret e s m args below meth c s₁) (h : (Cond.codeWith y bytes maxL' ret' hh).before args s = true) : c.exceptionTable.toList = tableOf hh := by
  obtain ⟨m9, meth9, c9, hn9, h1, h2, -, -, h6, -⟩ := Cond.codeWith_spec h
  cases Option.some.inj (hn9.symm.trans B.named)
  cases Option.some.inj (h1.symm.trans B.method)
  cases Option.some.inj (h2.symm.trans (Stand.of_body B).code)
  rw [← h6, table_eq]
end Bodies
end VXA
/-! ===== END ===== -/
/-! ===== BEGIN a static call of a method with an exception table ===== -/
section VXS
variable {p : Program} {l : Launch} {e : Env} {R : Room} {s : State} {m : MethodId} {args : Array Value} {below : List Frame} {meth : Method} {c : Code} {T : State} {H : Heap} {locs : List Loc} {cells slots : Nat}
abbrev vx_CSW (R : Room) (s : State) (args : Array Value) (own : String) (index : Nat) (y : MethodName) (bytes : ByteArray) (maxL : Nat) (ret : Option FieldType) (hh : List (Nat × Nat × Nat × Nat)) (ws : List Cond) (rm : Room) (mc ms n : Nat) : Prop :=
  (rm.cells = mc ∧ rm.slots = ms ∧ rm.frames + 1 ≤ R.frames ∧ 8 + (maxL + 11) + rm.locals ≤ R.locals ∧ (∀ w ∈ ws, ∀ (a' : Array Value) (U : State), s.WarmedH U.vm → w.before a' U = true) ∧ Cond.codeWith y bytes maxL ret hh ∈ ws) ∧
  (Cond.codeWith y bytes maxL ret hh).before args s = true ∧ (Cond.initialized y.cls).before args s = true ∧ (y.cls ≠ "java/lang/invoke/MethodHandle" ∧ y.cls ≠ "java/lang/invoke/VarHandle") ∧
  (∀ sig, parseMethodDescriptor y.desc = some sig → n = sig.parameters.length) ∧ (Cond.methodLink own index y).before args s = true ∧ (Cond.static y).before args s = true
theorem vx_cwSW {own : String} {index maxL mc ms : Nat} {y : MethodName} {bytes : ByteArray} {ret : Option FieldType} {hh : List (Nat × Nat × Nat × Nat)} {Ts ws ws' : List Cond} {rm : Room} (n : Nat) (ht : ∀ w ∈ Ts, w.before args s = true) (hT : GoodIn Ts (va_wsS own index y ws)) (hw : ws = Cond.codeWith y bytes maxL ret hh :: ws') (hrc : rm.cells = mc) (hrs : rm.slots = ms)
    (hd : y.cls ≠ "java/lang/invoke/MethodHandle" ∧ y.cls ≠ "java/lang/invoke/VarHandle" ∧ (parseMethodDescriptor y.desc).map (fun d => d.parameters.length) = some n) (hR : rm.frames + 1 ≤ R.frames ∧ 8 + (maxL + 11) + rm.locals ≤ R.locals) :
    vx_CSW R s args own index y bytes maxL ret hh ws rm mc ms n := by
  have ok : ∀ w ∈ va_wsS own index y ws, w.before args s = true := fun w h => ht w (hT w h).1
  have hG : GoodIn Ts ws := fun w h => hT w (by unfold va_wsS; exact List.mem_append_right _ h)
  have hc : Cond.codeWith y bytes maxL ret hh ∈ ws := by rw [hw]; exact List.mem_cons_self
  refine ⟨⟨hrc, hrs, hR.1, hR.2, pay_in ht hG, hc⟩, ht _ (hG _ hc).1, ok _ (by simp [va_wsS]), ⟨hd.1, hd.2.1⟩, fun sig h => ?_, ok _ (by simp [va_wsS]), ok _ (by simp [va_wsS])⟩
  have h2 := hd.2.2
  rw [h] at h2
  exact (Option.some.inj h2).symm
theorem vx_callSW (X : Stand p l e R s m args below meth c T locs cells slots) (hexec : p.tables.exec = Jvm.exec) {own : String} {index : Nat} {y : MethodName} {bytes : ByteArray} {maxL : Nat} {ret : Option FieldType} {hh : List (Nat × Nat × Nat × Nat)}
    (hown : s.vm.findClass own = some m.cls) (hlink : (Cond.methodLink own index y).before args s = true) (hstat : (Cond.static y).before args s = true) (hinit : (Cond.initialized y.cls).before args s = true)
    (hcode : (Cond.codeWith y bytes maxL ret hh).before args s = true) (hy : y.cls ≠ "java/lang/invoke/MethodHandle" ∧ y.cls ≠ "java/lang/invoke/VarHandle")
    {W9 : Nat} {Pre : Pt → Array Value → Prop} {Post : Pt → Array Value → Option Value → Pt → Prop} (hK : Back l R p e below s args y 3 W9 Pre Post)
    {g : JFrame} (hg : g.method = m) (hsize : g.locals.size = c.maxLocals) {argsL rest : List Value} (hlen : ∀ sig, parseMethodDescriptor y.desc = some sig → argsL.length = sig.parameters.length)
    (hstack : g.stack = argsL.reverse ++ rest) (hW : 2 * g.monitorRoom + (rest.map fun v => v.category).sum ≤ W9) (hdg : decode c.code g.pc = .ok (.invokestatic index, 3))
    (hpre : ∀ vm₁, s.WarmedH vm₁ → Pre ⟨T.setVm vm₁, locs, cells, slots⟩ argsL.toArray) :
    ∃ (v : Option Value) (vm₁ : Vm) (B : Pt), s.WarmedH vm₁ ∧ Stand p l e R s m args below meth c B.U B.locs B.cells B.slots ∧ Post ⟨T.setVm vm₁, locs, cells, slots⟩ argsL.toArray v B ∧
      ∀ target, Steps p.tables e below (B.U.setTop { g with pc := g.pc + 3, stack := v.toList ++ rest }) target → Steps p.tables e below (T.setTop g) target := by
  obtain ⟨mk, methM, cM, hnamed, hmethM, -, -, -, -, -, -, hsigM⟩ := Cond.codeWith_spec hcode
  have hstatic : methM.isStatic = true := Cond.static_spec hnamed hmethM hstat
  obtain ⟨kP, hkP, -⟩ := className_of_methodNamed hnamed
  have hinitP : kP.init = .initialized := Cond.initialized_spec (findClass_of_methodNamed hnamed) hkP hinit
  obtain ⟨vm₁, X₁, hstep₁⟩ := X.invokestatic hexec hown hlink hnamed hmethM hstatic hkP hinitP hy (g := g) hg (argsL := argsL) (rest := rest) (hlen _ hsigM) hstack hdg
  obtain ⟨v, B, X', hpost, hsteps⟩ := hK m meth c ⟨T.setVm vm₁, locs, cells, slots⟩ { g with stack := rest } (.invokestatic index) mk argsL.toArray X₁ hg hsize hdg hW (X₁.named hnamed) (hpre vm₁ X₁.warmed)
  exact ⟨v, vm₁, B, X₁.warmed, X', hpost, fun target h => hstep₁ _ fun acts => by rw [doInvoke_state]; exact hsteps.trans h⟩
theorem vx_runSW {y : MethodName} {bytes cc : ByteArray} {maxL nL mc ms n index : Nat} {ret : Option FieldType} {hh : List (Nat × Nat × Nat × Nat)} {ws : List Cond} {rm : Room} {Pc : Array Value → State → Prop} {Qc : Array Value → State → Outcome → State → Prop} {free : Addr → Prop} {Ts : List Cond} {own : String} {As rest : List Value} {g : JFrame}
    (S : CallFix p m c cc nL s args Ts own) (hM : Met l y ws rm Pc Qc mc ms free) (cw : vx_CSW R s args own index y bytes maxL ret hh ws rm mc ms n) (hp : PreS s H Pc As)
    (hg : g.method = m) (hn : As.length = n) (hsize : g.locals.size = nL) (hstack : g.stack = As.reverse ++ rest) (hW : 2 * g.monitorRoom + (rest.map fun v => v.category).sum ≤ 8) (hdg : decode cc g.pc = .ok (.invokestatic index, 3)) (hf : cells + mc ≤ R.cells ∧ slots + ms ≤ R.slots) :
    va_Run p l e R s m args below meth c H locs cells slots mc ms g rest (Qc As.toArray) (free) := by
  obtain ⟨⟨hrc, hrs, hfr, hlo, hws, hcw⟩, hcode, hini, hy, hlen, hl, hstt⟩ := cw
  have hK : Back l R p e below s args y 3 8 (PreOf R mc ms Pc) (PostOf Qc mc ms free) := va_backW (hh := hh) (bytes := bytes) (maxL := maxL) (ret := ret) hM hp.1 hrc hrs hfr hlo hws hcw (fun a' U hW => word_at hW (Or.inl (by first | rfl | simp [Cond.onTables, Cond.keeps, Cond.steady])) hini)
  obtain ⟨hx, hb, hml, ho, -⟩ := S
  intro T hT X
  obtain ⟨v, vm₁, ⟨U', l2, c2, s2⟩, hW₁, X', ⟨g', mk, t, L, e1, e2, hq, h1, hL, h2, h3⟩, st⟩ := vx_callSW X hx (hh := hh) (bytes := bytes) (maxL := maxL) (ret := ret) ho hl hstt hini hcode hy hK hg (hsize.trans hml.symm) (argsL := As) (rest := rest) (fun sig h => hn.trans (hlen sig h)) hstack hW (by rw [hb]; exact hdg)
    (fun vm₁ hW₁ => ⟨hf.1, hf.2, hp.2 (T.setVm vm₁) hT hW₁⟩)
  dsimp only [Pt.U, Pt.locs, Pt.cells, Pt.slots] at X' e1 e2 h1 h2 h3 st
  subst h1; subst h2; subst h3
  exact ⟨v, (T.setVm vm₁).calling g' mk As.toArray, t, U', L, hT, X', hL, e1, e2, hq, st⟩
/-- not caught here, past rows that name other classes: it goes on to the caller -/
theorem vx_outP {p : Program} {l : Launch} {e : Env} {R : Room} {s : State} {m : MethodId} {args : Array Value} {below : List Frame} {meth : Method} {c : Code} {H : Heap} {locs : List Loc} {cells slots : Nat} {free : Addr → Prop} {ls : Array Slot} {rest : List Value} {Qc : Array Value → State → Outcome → State → Prop} {XC : String → State → State → Prop}
    {pc : Nat} {own E : String} {ce : Cell} {q : Addr} {mc ms : Nat} (hown : s.vm.findClass own = some m.cls) (hlocks : meth.locks = false)
    (hpass : ∀ z ∈ c.exceptionTable.toList, covers z pc = false ∨ (z.catchType ≠ 0 ∧ ∃ nm : String, (Cond.classLink own z.catchType nm).before args s = true ∧ va_Nc E nm s)) (hcell : H[q]? = some ce) (hv : ce.vm = .none) (hcl : s.vm.findClass E = some ce.cls)
    (hx : ∀ t : State, t.heap = H → s.vm.Alike t.vm → XC E s t) (hf : ∀ z ∈ locs, free z.base) (hc : cells ≤ mc) (hs : slots ≤ ms) :
    vx_W p l e R s m args below meth c H locs cells slots (vx_MQ below Qc XC args s mc ms free) (F0 m pc ls rest) q := by
  intro T hT X
  have hpl : e.platform.magicAccessors = ({} : Platform).magicAccessors := by rw [X.admits.platform]
  obtain ⟨vm', hW', X', st⟩ := X.outThrough hlocks q (g := F0 m pc ls rest) rfl rfl rfl (cell := ce) (by rw [hT]; exact hcell) (by rw [hv]; rfl)
    (by obtain ⟨k9, h9, -⟩ := Vm.findClass_spec hcl; exact ⟨k9, h9⟩) (fun z hz => by
      rcases hpass z hz with h | ⟨hz0, nm, hl1, hn1⟩
      · exact Or.inl h
      · obtain ⟨c6, hc6, hcl6⟩ := Cond.classLink_spec hown hl1 e.platform hpl
        obtain ⟨a8, b8, h1, h2, h3⟩ := hn1
        cases Option.some.inj (h1.symm.trans hcl)
        cases Option.some.inj (h2.symm.trans hc6)
        exact Or.inr ⟨hz0, _, hcl6, h3⟩)
  obtain ⟨g₀, hfr⟩ := X'.frames_eq
  have hcell9 : ((T.setVm vm').setFrames (.throwing q :: below)).heap[q]? = some ce := by
    show T.heap[q]? = some ce
    rw [hT]; exact hcell
  have hend : Ended ((T.setVm vm').setFrames (.throwing q :: below)) below (.threw q) := State.frames_setFrames _ (State.cur_lt_of_frames hfr)
  refine ⟨(T.setVm vm').setFrames (.throwing q :: below), ?_, .threw q, X'.here.running, hend, Or.inr ⟨q, rfl, E, ce, locs, hx _ hT (X'.ends _).1.alike, hcell9, hv, hcl, (X'.ends _).1, (X'.ends _).2.mono hc hs, hf⟩⟩
  rw [X.pushThrowing_eq]
  exact st
/-- a thing of a world lies in the heap -/
theorem vx_lt {D : va_G} {cl : List vw_C} {ws : va_W} {H1 : Heap} (h : va_P D cl ws H1) {k : Nat} {q : Nat × va_E} (hk : ws[k]? = some q) : q.1 < H1.size := (h k q hk).lt
end VXS
/-! ===== END ===== -/
/-! ===== BEGIN methods with a table of their own: called by a name, returning or throwing ===== -/
section VXH
/-! vx_backW, vx_callVX, vx_callSX, vx_callVW, vx_runVW, vx_runVX, vx_runSX, vx_ofWH follow the same proofs as their sisters above (Free/Laws.lean, Shelf42/LK1.lean); vx_outP calls Shelf42/NT130.lean (outThrough). -/
section
variable {l : Launch} {R : Room} {p : Program} {e : Env} {below : List Frame} {s : State} {sargs : Array Value} {y : MethodName} {len W9 : Nat}
theorem vx_backW {ws : List Cond} {rm : Room} {Pc : Array Value → State → Prop} {Qc : Array Value → State → Outcome → State → Prop} {XC : String → State → State → Prop} {mc ms : Nat} {free : Addr → Prop} {bytes : ByteArray} {maxL : Nat} {ret : Option FieldType} {hh : List (Nat × Nat × Nat × Nat)}
    (hM : vx_Met l y ws rm Pc Qc XC mc ms free) (hblind : FrameBlind Pc) (hrc : rm.cells = mc) (hrs : rm.slots = ms)
    (hframes : rm.frames + 1 ≤ R.frames) (hlocals : W9 + (maxL + 11) + rm.locals ≤ R.locals)
    (hws : ∀ w ∈ ws, ∀ a' U, s.WarmedH U.vm → w.before a' U = true) (hcode : Cond.codeWith y bytes maxL ret hh ∈ ws) (hinit : ∀ a' U, s.WarmedH U.vm → (Cond.initialized y.cls).before a' U = true) :
    vx_Back l R p e below s sargs y len W9 (PreOf R mc ms Pc) (PostOf Qc mc ms free) (vx_Post XC mc ms free) := by
  intro m meth c A g ig mk a X hg hsize hdg hW hn hp
  have h1 : (headSpec ws rm).pre.before a A.U = true := atoms_intro fun w hw => hws w hw _ _ X.warmed
  have h2 : (Cond.codeWith y bytes maxL ret hh).before a A.U = true := hws _ hcode _ _ X.warmed
  have h3 : (Cond.initialized y.cls).before a A.U = true := hinit _ _ X.warmed
  have h4 : A.cells + (headSpec ws rm).room.cells ≤ R.cells := by rw [show (headSpec ws rm).room.cells = mc from hrc]; exact hp.1
  have h5 : A.slots + (headSpec ws rm).room.slots ≤ R.slots := by rw [show (headSpec ws rm).room.slots = ms from hrs]; exact hp.2.1
  have hPc : Pc a (A.U.calling g mk a) := hblind _ _ _ _ hp.2.2
  obtain ⟨U, Ls, c0, s0⟩ := A
  dsimp only [Pt.U, Pt.locs, Pt.cells, Pt.slots] at h1 h2 h3 h4 h5 X hn hPc ⊢
  obtain ⟨m9, methY, cY, hn9, hmY, hcY, -, hlY, -⟩ := Cond.codeWith_spec h2
  cases Option.some.inj (hn9.symm.trans hn)
  obtain ⟨kY, hkY, -⟩ := className_of_methodNamed hn
  have hinitY : kY.init = .initialized := Cond.initialized_spec (findClass_of_methodNamed hn) hkY h3
  have h : At U g.method c below := by rw [hg]; exact X.here
  have hlocals9 : W9 + (maxL + 11) + (headSpec ws rm).room.locals ≤ R.locals := hlocals
  have happ : (headSpec ws rm).appliesLoose y e.platform (U.calling g mk a) = true :=
    Spec.appliesLoose_calling (g := g) h hdg hn hkY hinitY
      (X.room_calling (g := g) (R' := (headSpec ws rm).room) hsize hmY hcY hframes (by rw [hlY]; omega) h4 h5) h1
  obtain ⟨mid, hmid⟩ := h.above
  have hfr : (U.setTop g).frames = (.java g :: mid) ++ below := by rw [State.frames_setTop' g h.top, hmid]; rfl
  obtain ⟨o, s₂, hsteps, -, hend, hq⟩ := Steps.callFree hM p X.admits X.cas X.clock (acts := []) hfr happ hPc trivial
  have hq' : vx_Q Qc XC mc ms free a (U.calling g mk a) o s₂ := hq
  rw [State.frames_setTop' g h.top] at hend
  obtain ⟨g₀, hg0⟩ := Option.isSome_iff_exists.mp h.top
  obtain ⟨r, hr⟩ := State.topJava?_eq_some.mp hg0
  have hr' : (({ U with heap := s₂.heap, slotsUsed := s₂.slotsUsed } : State).setVm s₂.vm).frames = .java g₀ :: r := hr
  rcases hq' with ⟨hqc, L, hfe, hL⟩ | ⟨q, rfl, E, ce, L, hx, hce, hcv, hcl, hW₂, hsm, hL⟩
  · obtain ⟨⟨v, rfl⟩, hW₂, e2, q2, q3, q4, q5, q6⟩ := id hfe
    have e3 : s₂ = ({ (U.calling g mk a).setFrames s₂.frames with heap := s₂.heap, slotsUsed := s₂.slotsUsed } : State).setVm s₂.vm := by
      have : s₂ = ({ s₂ with vm := (U.calling g mk a).vm } : State).setVm s₂.vm := rfl
      rw [e2] at this
      exact this
    obtain ⟨c₂, i₂, len₂, hc₂, hd₂, hf₂⟩ := hend
    have hW' : U.WarmedH s₂.vm := hW₂
    have hcc : c₂ = c := by
      have h1 : s₂.code? g.method = U.code? g.method := by
        rw [State.code?_eq, State.code?_eq, hW'.alike.method?]
      exact Option.some.inj (hc₂.symm.trans (h1.trans h.code))
    subst hcc
    have hlen : len₂ = len := by rw [hdg] at hd₂; cases hd₂; rfl
    subst hlen
    have hs₂ : s₂ = (({ U with heap := s₂.heap, slotsUsed := s₂.slotsUsed } : State).setVm s₂.vm).setTop { g with pc := g.pc + len₂, stack := v.toList ++ g.stack } := by
      refine e3.trans ?_
      rw [hf₂, State.calling_eq h.top, State.setFrames_setFrames, State.setTop_of_frames _ hr', hr]
      rfl
    have hsame : U.sameButNew ({ U with heap := s₂.heap, slotsUsed := s₂.slotsUsed } : State) L mc ms := by
      refine ⟨?_, q2, q3, q4, q5, q6⟩
      obtain ⟨t, ht, -⟩ := State.frames_cons hr
      show ({ U with heap := s₂.heap, slotsUsed := s₂.slotsUsed } : State) = { U.setFrames U.frames with heap := s₂.heap, slotsUsed := s₂.slotsUsed }
      rw [State.setFrames_self ht]
    subst hg
    refine Or.inl ⟨v, ⟨(({ U with heap := s₂.heap, slotsUsed := s₂.slotsUsed } : State).setVm s₂.vm), Ls ++ L, c0 + mc, s0 + ms⟩,
      ⟨X.admits, X.cas, X.clock, X.frames, X.room, X.hears, X.method, X.code, (X.here.setHeapUsed s₂.heap s₂.slotsUsed).setVm hW'.alike, X.tail, State.WarmedH.trans X.warmed hW', X.limits, X.bytes, X.same.trans (hsame.setVm s.vm)⟩,
      ⟨g, mk, s₂, L, rfl, rfl, hqc, rfl, hL, rfl, rfl⟩, ?_⟩
    show Steps p.tables e below _ ((({ U with heap := s₂.heap, slotsUsed := s₂.slotsUsed } : State).setVm s₂.vm).setTop { g with pc := g.pc + len₂, stack := v.toList ++ g.stack })
    rw [← hs₂]
    exact hsteps
  · obtain ⟨e2, q2, q3, q4, q5, q6⟩ := id hsm
    have e3 : s₂ = ({ (U.calling g mk a).setFrames s₂.frames with heap := s₂.heap, slotsUsed := s₂.slotsUsed } : State).setVm s₂.vm := by
      have : s₂ = ({ s₂ with vm := (U.calling g mk a).vm } : State).setVm s₂.vm := rfl
      rw [e2] at this
      exact this
    have hf₂ : s₂.frames = .throwing q :: .java g :: U.frames.tail := hend
    have hW' : U.WarmedH s₂.vm := hW₂
    have hs₂ : s₂ = ((({ U with heap := s₂.heap, slotsUsed := s₂.slotsUsed } : State).setVm s₂.vm).setTop g).pushFrame (.throwing q) := by
      refine e3.trans ?_
      rw [hf₂, State.calling_eq h.top, State.setFrames_setFrames, State.pushFrame, State.frames_setTop _ hr', State.setTop_of_frames _ hr', State.setFrames_setFrames, hr]
      rfl
    have hsame : U.sameButNew ({ U with heap := s₂.heap, slotsUsed := s₂.slotsUsed } : State) L mc ms := by
      refine ⟨?_, q2, q3, q4, q5, q6⟩
      obtain ⟨t, ht, -⟩ := State.frames_cons hr
      show ({ U with heap := s₂.heap, slotsUsed := s₂.slotsUsed } : State) = { U.setFrames U.frames with heap := s₂.heap, slotsUsed := s₂.slotsUsed }
      rw [State.setFrames_self ht]
    subst hg
    refine Or.inr ⟨q, ⟨(({ U with heap := s₂.heap, slotsUsed := s₂.slotsUsed } : State).setVm s₂.vm), Ls ++ L, c0 + mc, s0 + ms⟩,
      ⟨X.admits, X.cas, X.clock, X.frames, X.room, X.hears, X.method, X.code, (X.here.setHeapUsed s₂.heap s₂.slotsUsed).setVm hW'.alike, X.tail, State.WarmedH.trans X.warmed hW', X.limits, X.bytes, X.same.trans (hsame.setVm s.vm)⟩,
      ⟨g, mk, s₂, L, E, ce, rfl, rfl, hx, hce, hcv, hcl, rfl, hL, rfl, rfl⟩, ?_⟩
    show Steps p.tables e below _ (((({ U with heap := s₂.heap, slotsUsed := s₂.slotsUsed } : State).setVm s₂.vm).setTop g).pushFrame (.throwing q))
    rw [← hs₂]
    exact hsteps
end
variable {p : Program} {l : Launch} {e : Env} {R : Room} {s : State} {m : MethodId} {args : Array Value} {below : List Frame} {meth : Method} {c : Code} {T : State} {H : Heap} {locs : List Loc} {cells slots : Nat}
theorem vx_callVX (X : Stand p l e R s m args below meth c T locs cells slots) (hexec : p.tables.exec = Jvm.exec) {own C : String} {index : Nat} {y : MethodName} {bytes : ByteArray} {maxL : Nat} {ret : Option FieldType} {hh : List (Nat × Nat × Nat × Nat)}
    (hown : s.vm.findClass own = some m.cls) (hlink : (Cond.methodLink own index y).before args s = true) (hinst : (Cond.instanceMethod y).before args s = true) (hsel : (Cond.selects C y y).before args s = true)
    (hcode : (Cond.codeWith y bytes maxL ret hh).before args s = true) (hy : y.cls ≠ "java/lang/invoke/MethodHandle" ∧ y.cls ≠ "java/lang/invoke/VarHandle")
    {W9 : Nat} {Pre : Pt → Array Value → Prop} {Post : Pt → Array Value → Option Value → Pt → Prop} {PostX : Pt → Array Value → Addr → Pt → Prop} (hK : vx_Back l R p e below s args y 3 W9 Pre Post PostX)
    {b : Addr} {cellB : Cell} (hcell : T.heap[b]? = some cellB) (hobj : cellB.vm.isStatics = false) (hcls : s.vm.findClass C = some cellB.cls)
    {g : JFrame} (hg : g.method = m) (hsize : g.locals.size = c.maxLocals) {argsL rest : List Value} (hlen : ∀ sig, parseMethodDescriptor y.desc = some sig → argsL.length = sig.parameters.length)
    (hstack : g.stack = argsL.reverse ++ .ref b :: rest) (hW : 2 * g.monitorRoom + (rest.map fun v => v.category).sum ≤ W9) (hdg : decode c.code g.pc = .ok (.invokevirtual index, 3))
    (hpre : ∀ vm₁, s.WarmedH vm₁ → Pre ⟨T.setVm vm₁, locs, cells, slots⟩ (Value.ref b :: argsL).toArray) :
    (∃ (v : Option Value) (vm₁ : Vm) (B : Pt), s.WarmedH vm₁ ∧ Stand p l e R s m args below meth c B.U B.locs B.cells B.slots ∧ Post ⟨T.setVm vm₁, locs, cells, slots⟩ (Value.ref b :: argsL).toArray v B ∧
      ∀ target, Steps p.tables e below (B.U.setTop { g with pc := g.pc + 3, stack := v.toList ++ rest }) target → Steps p.tables e below (T.setTop g) target) ∨
    (∃ (q : Addr) (vm₁ : Vm) (B : Pt), s.WarmedH vm₁ ∧ Stand p l e R s m args below meth c B.U B.locs B.cells B.slots ∧ PostX ⟨T.setVm vm₁, locs, cells, slots⟩ (Value.ref b :: argsL).toArray q B ∧
      Steps p.tables e below (T.setTop g) ((B.U.setTop { g with stack := rest }).pushFrame (.throwing q))) := by
  obtain ⟨mk, methM, hnamed, hmethM, hstM, habM⟩ := Cond.instanceMethod_spec hinst
  obtain ⟨m8, methM', cM, hn8, hmethM', -, -, -, -, -, -, hsigM⟩ := Cond.codeWith_spec hcode
  cases Option.some.inj (hn8.symm.trans hnamed)
  cases hmethM.symm.trans hmethM'
  obtain ⟨c2, r2, m2, q1, q2, q3, q4, kP, hkP, hkPi⟩ := Cond.selects_spec hsel
  cases hcls.symm.trans q1
  cases (State.methodFound?_of_named hnamed hy).symm.trans q2
  cases hnamed.symm.trans q3
  have hselP : selectMethod e.platform s.vm cellB.cls mk = .method mk := by rw [Launch.admits_selectMethod X.admits]; exact q4
  obtain ⟨vm₁, X₁, hstep₁⟩ := X.invokevirtual hexec hown hlink hnamed hmethM hstM hkP hkPi hy (a := b) (cell := cellB) hcell
    (fun z h => by rw [h] at hobj; cases hobj) hselP hmethM habM hkP hkPi (g := g) hg (argsL := argsL) (rest := rest) (hlen _ hsigM) hstack hdg
  rcases hK m meth c ⟨T.setVm vm₁, locs, cells, slots⟩ { g with stack := rest } (.invokevirtual index) mk (Value.ref b :: argsL).toArray X₁ hg hsize hdg hW (X₁.named hnamed) (hpre vm₁ X₁.warmed) with ⟨v, B, X', hpost, hsteps⟩ | ⟨q, B, X', hpost, hsteps⟩
  · exact Or.inl ⟨v, vm₁, B, X₁.warmed, X', hpost, fun target h => hstep₁ _ fun acts => by rw [doInvoke_state]; exact hsteps.trans h⟩
  · exact Or.inr ⟨q, vm₁, B, X₁.warmed, X', hpost, hstep₁ _ fun acts => by rw [doInvoke_state]; exact hsteps⟩
theorem vx_callSX (X : Stand p l e R s m args below meth c T locs cells slots) (hexec : p.tables.exec = Jvm.exec) {own : String} {index : Nat} {y : MethodName} {bytes : ByteArray} {maxL : Nat} {ret : Option FieldType} {hh : List (Nat × Nat × Nat × Nat)}
    (hown : s.vm.findClass own = some m.cls) (hlink : (Cond.methodLink own index y).before args s = true) (hstat : (Cond.static y).before args s = true) (hinit : (Cond.initialized y.cls).before args s = true)
    (hcode : (Cond.codeWith y bytes maxL ret hh).before args s = true) (hy : y.cls ≠ "java/lang/invoke/MethodHandle" ∧ y.cls ≠ "java/lang/invoke/VarHandle")
    {W9 : Nat} {Pre : Pt → Array Value → Prop} {Post : Pt → Array Value → Option Value → Pt → Prop} {PostX : Pt → Array Value → Addr → Pt → Prop} (hK : vx_Back l R p e below s args y 3 W9 Pre Post PostX)
    {g : JFrame} (hg : g.method = m) (hsize : g.locals.size = c.maxLocals) {argsL rest : List Value} (hlen : ∀ sig, parseMethodDescriptor y.desc = some sig → argsL.length = sig.parameters.length)
    (hstack : g.stack = argsL.reverse ++ rest) (hW : 2 * g.monitorRoom + (rest.map fun v => v.category).sum ≤ W9) (hdg : decode c.code g.pc = .ok (.invokestatic index, 3))
    (hpre : ∀ vm₁, s.WarmedH vm₁ → Pre ⟨T.setVm vm₁, locs, cells, slots⟩ argsL.toArray) :
    (∃ (v : Option Value) (vm₁ : Vm) (B : Pt), s.WarmedH vm₁ ∧ Stand p l e R s m args below meth c B.U B.locs B.cells B.slots ∧ Post ⟨T.setVm vm₁, locs, cells, slots⟩ argsL.toArray v B ∧
      ∀ target, Steps p.tables e below (B.U.setTop { g with pc := g.pc + 3, stack := v.toList ++ rest }) target → Steps p.tables e below (T.setTop g) target) ∨
    (∃ (q : Addr) (vm₁ : Vm) (B : Pt), s.WarmedH vm₁ ∧ Stand p l e R s m args below meth c B.U B.locs B.cells B.slots ∧ PostX ⟨T.setVm vm₁, locs, cells, slots⟩ argsL.toArray q B ∧
      Steps p.tables e below (T.setTop g) ((B.U.setTop { g with stack := rest }).pushFrame (.throwing q))) := by
  obtain ⟨mk, methM, cM, hnamed, hmethM, -, -, -, -, -, -, hsigM⟩ := Cond.codeWith_spec hcode
  have hstatic : methM.isStatic = true := Cond.static_spec hnamed hmethM hstat
  obtain ⟨kP, hkP, -⟩ := className_of_methodNamed hnamed
  have hinitP : kP.init = .initialized := Cond.initialized_spec (findClass_of_methodNamed hnamed) hkP hinit
  obtain ⟨vm₁, X₁, hstep₁⟩ := X.invokestatic hexec hown hlink hnamed hmethM hstatic hkP hinitP hy (g := g) hg (argsL := argsL) (rest := rest) (hlen _ hsigM) hstack hdg
  rcases hK m meth c ⟨T.setVm vm₁, locs, cells, slots⟩ { g with stack := rest } (.invokestatic index) mk argsL.toArray X₁ hg hsize hdg hW (X₁.named hnamed) (hpre vm₁ X₁.warmed) with ⟨v, B, X', hpost, hsteps⟩ | ⟨q, B, X', hpost, hsteps⟩
  · exact Or.inl ⟨v, vm₁, B, X₁.warmed, X', hpost, fun target h => hstep₁ _ fun acts => by rw [doInvoke_state]; exact hsteps.trans h⟩
  · exact Or.inr ⟨q, vm₁, B, X₁.warmed, X', hpost, hstep₁ _ fun acts => by rw [doInvoke_state]; exact hsteps⟩
theorem vx_callVW (X : Stand p l e R s m args below meth c T locs cells slots) (hexec : p.tables.exec = Jvm.exec) {own C : String} {index : Nat} {y : MethodName} {bytes : ByteArray} {maxL : Nat} {ret : Option FieldType} {hh : List (Nat × Nat × Nat × Nat)}
    (hown : s.vm.findClass own = some m.cls) (hlink : (Cond.methodLink own index y).before args s = true) (hinst : (Cond.instanceMethod y).before args s = true) (hsel : (Cond.selects C y y).before args s = true)
    (hcode : (Cond.codeWith y bytes maxL ret hh).before args s = true) (hy : y.cls ≠ "java/lang/invoke/MethodHandle" ∧ y.cls ≠ "java/lang/invoke/VarHandle")
    {W9 : Nat} {Pre : Pt → Array Value → Prop} {Post : Pt → Array Value → Option Value → Pt → Prop} (hK : Back l R p e below s args y 3 W9 Pre Post)
    {b : Addr} {cellB : Cell} (hcell : T.heap[b]? = some cellB) (hobj : cellB.vm.isStatics = false) (hcls : s.vm.findClass C = some cellB.cls)
    {g : JFrame} (hg : g.method = m) (hsize : g.locals.size = c.maxLocals) {argsL rest : List Value} (hlen : ∀ sig, parseMethodDescriptor y.desc = some sig → argsL.length = sig.parameters.length)
    (hstack : g.stack = argsL.reverse ++ .ref b :: rest) (hW : 2 * g.monitorRoom + (rest.map fun v => v.category).sum ≤ W9) (hdg : decode c.code g.pc = .ok (.invokevirtual index, 3))
    (hpre : ∀ vm₁, s.WarmedH vm₁ → Pre ⟨T.setVm vm₁, locs, cells, slots⟩ (Value.ref b :: argsL).toArray) :
    ∃ (v : Option Value) (vm₁ : Vm) (B : Pt), s.WarmedH vm₁ ∧ Stand p l e R s m args below meth c B.U B.locs B.cells B.slots ∧ Post ⟨T.setVm vm₁, locs, cells, slots⟩ (Value.ref b :: argsL).toArray v B ∧
      ∀ target, Steps p.tables e below (B.U.setTop { g with pc := g.pc + 3, stack := v.toList ++ rest }) target → Steps p.tables e below (T.setTop g) target := by
  obtain ⟨mk, methM, hnamed, hmethM, hstM, habM⟩ := Cond.instanceMethod_spec hinst
  obtain ⟨m8, methM', cM, hn8, hmethM', -, -, -, -, -, -, hsigM⟩ := Cond.codeWith_spec hcode
  cases Option.some.inj (hn8.symm.trans hnamed)
  cases hmethM.symm.trans hmethM'
  obtain ⟨c2, r2, m2, q1, q2, q3, q4, kP, hkP, hkPi⟩ := Cond.selects_spec hsel
  cases hcls.symm.trans q1
  cases (State.methodFound?_of_named hnamed hy).symm.trans q2
  cases hnamed.symm.trans q3
  have hselP : selectMethod e.platform s.vm cellB.cls mk = .method mk := by rw [Launch.admits_selectMethod X.admits]; exact q4
  obtain ⟨vm₁, X₁, hstep₁⟩ := X.invokevirtual hexec hown hlink hnamed hmethM hstM hkP hkPi hy (a := b) (cell := cellB) hcell
    (fun z h => by rw [h] at hobj; cases hobj) hselP hmethM habM hkP hkPi (g := g) hg (argsL := argsL) (rest := rest) (hlen _ hsigM) hstack hdg
  obtain ⟨v, B, X', hpost, hsteps⟩ := hK m meth c ⟨T.setVm vm₁, locs, cells, slots⟩ { g with stack := rest } (.invokevirtual index) mk (Value.ref b :: argsL).toArray X₁ hg hsize hdg hW (X₁.named hnamed) (hpre vm₁ X₁.warmed)
  exact ⟨v, vm₁, B, X₁.warmed, X', hpost, fun target h => hstep₁ _ fun acts => by rw [doInvoke_state]; exact hsteps.trans h⟩
abbrev vx_CVW (R : Room) (s : State) (args : Array Value) (own C : String) (index : Nat) (y : MethodName) (bytes : ByteArray) (maxL : Nat) (ret : Option FieldType) (hh : List (Nat × Nat × Nat × Nat)) (ws : List Cond) (rm : Room) (mc ms n : Nat) : Prop :=
  (rm.cells = mc ∧ rm.slots = ms ∧ rm.frames + 1 ≤ R.frames ∧ 8 + (maxL + 11) + rm.locals ≤ R.locals ∧ (∀ w ∈ ws, ∀ (a' : Array Value) (U : State), s.WarmedH U.vm → w.before a' U = true) ∧ Cond.codeWith y bytes maxL ret hh ∈ ws) ∧
  (Cond.codeWith y bytes maxL ret hh).before args s = true ∧ (Cond.initialized y.cls).before args s = true ∧ (y.cls ≠ "java/lang/invoke/MethodHandle" ∧ y.cls ≠ "java/lang/invoke/VarHandle") ∧
  (∀ sig, parseMethodDescriptor y.desc = some sig → n = sig.parameters.length) ∧ (Cond.methodLink own index y).before args s = true ∧ (Cond.instanceMethod y).before args s = true ∧ (Cond.selects C y y).before args s = true
theorem vx_cwVW {own C : String} {index maxL mc ms : Nat} {y : MethodName} {bytes : ByteArray} {ret : Option FieldType} {hh : List (Nat × Nat × Nat × Nat)} {Ts ws ws' : List Cond} {rm : Room} (n : Nat) (ht : ∀ w ∈ Ts, w.before args s = true) (hT : GoodIn Ts (wsV own index C y ws)) (hw : ws = Cond.codeWith y bytes maxL ret hh :: ws') (hrc : rm.cells = mc) (hrs : rm.slots = ms)
    (hd : y.cls = C ∧ y.cls ≠ "java/lang/invoke/MethodHandle" ∧ y.cls ≠ "java/lang/invoke/VarHandle" ∧ (parseMethodDescriptor y.desc).map (fun d => d.parameters.length) = some n) (hR : rm.frames + 1 ≤ R.frames ∧ 8 + (maxL + 11) + rm.locals ≤ R.locals) :
    vx_CVW R s args own C index y bytes maxL ret hh ws rm mc ms n := by
  obtain ⟨hC, hd⟩ := hd
  subst hC
  have ok : ∀ w ∈ wsV own index y.cls y ws, w.before args s = true := fun w h => ht w (hT w h).1
  have hG : GoodIn Ts ws := fun w h => hT w (by unfold wsV; exact List.mem_append_right _ h)
  have hc : Cond.codeWith y bytes maxL ret hh ∈ ws := by rw [hw]; exact List.mem_cons_self
  refine ⟨⟨hrc, hrs, hR.1, hR.2, pay_in ht hG, hc⟩, ht _ (hG _ hc).1, ok _ (by simp [wsV]), ⟨hd.1, hd.2.1⟩, fun sig h => ?_, ok _ (by simp [wsV]), ok _ (by simp [wsV]), ok _ (by simp [wsV])⟩
  have h2 := hd.2.2
  rw [h] at h2
  exact (Option.some.inj h2).symm
theorem vx_runVW {y : MethodName} {bytes cc : ByteArray} {maxL nL mc ms n index : Nat} {ret : Option FieldType} {hh : List (Nat × Nat × Nat × Nat)} {ws : List Cond} {rm : Room} {Pc : Array Value → State → Prop} {Qc : Array Value → State → Outcome → State → Prop} {free : Addr → Prop} {Ts : List Cond} {own C : String} {b : Addr} {As rest : List Value} {g : JFrame}
    (S : CallFix p m c cc nL s args Ts own) (hM : Met l y ws rm Pc Qc mc ms free) (cw : vx_CVW R s args own C index y bytes maxL ret hh ws rm mc ms n) (hp : PreV s H C b Pc As)
    (hg : g.method = m) (hn : As.length = n) (hsize : g.locals.size = nL) (hstack : g.stack = As.reverse ++ .ref b :: rest) (hW : 2 * g.monitorRoom + (rest.map fun v => v.category).sum ≤ 8) (hdg : decode cc g.pc = .ok (.invokevirtual index, 3)) (hf : cells + mc ≤ R.cells ∧ slots + ms ≤ R.slots) :
    va_Run p l e R s m args below meth c H locs cells slots mc ms g rest (Qc (Value.ref b :: As).toArray) free := by
  obtain ⟨⟨hrc, hrs, hfr, hlo, hws, hcw⟩, hcode, hini, hy, hlen, hl, hin, hse⟩ := cw
  have hK : Back l R p e below s args y 3 8 (PreOf R mc ms Pc) (PostOf Qc mc ms free) := va_backW (hh := hh) (bytes := bytes) (maxL := maxL) (ret := ret) hM hp.1 hrc hrs hfr hlo hws hcw (fun a' U hW => word_at hW (Or.inl (by first | rfl | simp [Cond.onTables, Cond.keeps, Cond.steady])) hini)
  obtain ⟨hx, hb, hml, ho, -⟩ := S
  obtain ⟨-, ⟨cellB, hcB, hoB, hclB⟩, hPc⟩ := hp
  intro T hT X
  obtain ⟨v, vm₁, ⟨U', l2, c2, s2⟩, hW₁, X', ⟨g', mk, t, L, e1, e2, hq, h1, hL, h2, h3⟩, st⟩ := vx_callVW X hx (C := C) (hh := hh) (bytes := bytes) (maxL := maxL) (ret := ret) ho hl hin hse hcode hy hK (by rw [hT]; exact hcB) hoB hclB hg (hsize.trans hml.symm) (argsL := As) (rest := rest) (fun sig h => hn.trans (hlen sig h)) hstack hW (by rw [hb]; exact hdg)
    (fun vm₁ hW₁ => ⟨hf.1, hf.2, hPc (T.setVm vm₁) hT hW₁⟩)
  dsimp only [Pt.U, Pt.locs, Pt.cells, Pt.slots] at X' e1 e2 h1 h2 h3 st
  subst h1; subst h2; subst h3
  exact ⟨v, (T.setVm vm₁).calling g' mk (Value.ref b :: As).toArray, t, U', L, hT, X', hL, e1, e2, hq, st⟩
section
variable {y : MethodName} {bytes cc : ByteArray} {maxL nL mc ms n index : Nat} {ret : Option FieldType} {ws : List Cond} {rm : Room} {Pc : Array Value → State → Prop} {Qc : Array Value → State → Outcome → State → Prop} {XC : String → State → State → Prop} {free : Addr → Prop} {Ts : List Cond} {own C : String} {b : Addr} {As rest : List Value} {g : JFrame}
theorem vx_runVX {hh : List (Nat × Nat × Nat × Nat)} (S : CallFix p m c cc nL s args Ts own) (hM : vx_Met l y ws rm Pc Qc XC mc ms free) (cw : vx_CVW R s args own C index y bytes maxL ret hh ws rm mc ms n) (hp : PreV s H C b Pc As)
    (hg : g.method = m) (hn : As.length = n) (hsize : g.locals.size = nL) (hstack : g.stack = As.reverse ++ .ref b :: rest) (hW : 2 * g.monitorRoom + (rest.map fun v => v.category).sum ≤ 8) (hdg : decode cc g.pc = .ok (.invokevirtual index, 3)) (hf : cells + mc ≤ R.cells ∧ slots + ms ≤ R.slots) :
    vx_Run p l e R s m args below meth c H locs cells slots mc ms g rest (Qc (Value.ref b :: As).toArray) XC free := by
  obtain ⟨⟨hrc, hrs, hfr, hlo, hws, hcw⟩, hcode, hini, hy, hlen, hl, hin, hse⟩ := cw
  have hK : vx_Back l R p e below s args y 3 8 (PreOf R mc ms Pc) (PostOf Qc mc ms free) (vx_Post XC mc ms free) := vx_backW (hh := hh) (bytes := bytes) (maxL := maxL) (ret := ret) hM hp.1 hrc hrs hfr hlo hws hcw (fun a' U hW => word_at hW (Or.inl (by first | rfl | simp [Cond.onTables, Cond.keeps, Cond.steady])) hini)
  obtain ⟨hx, hb, hml, ho, -⟩ := S
  obtain ⟨-, ⟨cellB, hcB, hoB, hclB⟩, hPc⟩ := hp
  intro T hT X
  rcases vx_callVX X hx (C := C) (hh := hh) (bytes := bytes) (maxL := maxL) (ret := ret) ho hl hin hse hcode hy hK (by rw [hT]; exact hcB) hoB hclB hg (hsize.trans hml.symm) (argsL := As) (rest := rest) (fun sig h => hn.trans (hlen sig h)) hstack hW (by rw [hb]; exact hdg)
    (fun vm₁ hW₁ => ⟨hf.1, hf.2, hPc (T.setVm vm₁) hT hW₁⟩) with ⟨v, vm₁, ⟨U', l2, c2, s2⟩, hW₁, X', ⟨g', mk, t, L, e1, e2, hq, h1, hL, h2, h3⟩, st⟩ | ⟨q, vm₁, ⟨U', l2, c2, s2⟩, hW₁, X', ⟨g', mk, t, L, E, ce, e1, e2, hq, hce, hcv, hcl, h1, hL, h2, h3⟩, st⟩
  · dsimp only [Pt.U, Pt.locs, Pt.cells, Pt.slots] at X' e1 e2 h1 h2 h3 st
    subst h1; subst h2; subst h3
    exact Or.inl ⟨v, (T.setVm vm₁).calling g' mk (Value.ref b :: As).toArray, t, U', L, hT, X', hL, e1, e2, hq, st⟩
  · dsimp only [Pt.U, Pt.locs, Pt.cells, Pt.slots] at X' e1 e2 h1 h2 h3 st hcl
    subst h1; subst h2; subst h3
    exact Or.inr ⟨q, (T.setVm vm₁).calling g' mk (Value.ref b :: As).toArray, t, U', L, E, ce, hT, X', hL, e1, e2, hq, hce, hcv, vx_cls hW₁ hcl, st⟩
theorem vx_runSX {hh : List (Nat × Nat × Nat × Nat)} (S : CallFix p m c cc nL s args Ts own) (hM : vx_Met l y ws rm Pc Qc XC mc ms free) (cw : vx_CSW R s args own index y bytes maxL ret hh ws rm mc ms n) (hp : PreS s H Pc As)
    (hg : g.method = m) (hn : As.length = n) (hsize : g.locals.size = nL) (hstack : g.stack = As.reverse ++ rest) (hW : 2 * g.monitorRoom + (rest.map fun v => v.category).sum ≤ 8) (hdg : decode cc g.pc = .ok (.invokestatic index, 3)) (hf : cells + mc ≤ R.cells ∧ slots + ms ≤ R.slots) :
    vx_Run p l e R s m args below meth c H locs cells slots mc ms g rest (Qc As.toArray) XC free := by
  obtain ⟨⟨hrc, hrs, hfr, hlo, hws, hcw⟩, hcode, hini, hy, hlen, hl, hstt⟩ := cw
  have hK : vx_Back l R p e below s args y 3 8 (PreOf R mc ms Pc) (PostOf Qc mc ms free) (vx_Post XC mc ms free) := vx_backW (hh := hh) (bytes := bytes) (maxL := maxL) (ret := ret) hM hp.1 hrc hrs hfr hlo hws hcw (fun a' U hW => word_at hW (Or.inl (by first | rfl | simp [Cond.onTables, Cond.keeps, Cond.steady])) hini)
  obtain ⟨hx, hb, hml, ho, -⟩ := S
  intro T hT X
  rcases vx_callSX X hx (hh := hh) (bytes := bytes) (maxL := maxL) (ret := ret) ho hl hstt hini hcode hy hK hg (hsize.trans hml.symm) (argsL := As) (rest := rest) (fun sig h => hn.trans (hlen sig h)) hstack hW (by rw [hb]; exact hdg)
    (fun vm₁ hW₁ => ⟨hf.1, hf.2, hp.2 (T.setVm vm₁) hT hW₁⟩) with ⟨v, vm₁, ⟨U', l2, c2, s2⟩, hW₁, X', ⟨g', mk, t, L, e1, e2, hq, h1, hL, h2, h3⟩, st⟩ | ⟨q, vm₁, ⟨U', l2, c2, s2⟩, hW₁, X', ⟨g', mk, t, L, E, ce, e1, e2, hq, hce, hcv, hcl, h1, hL, h2, h3⟩, st⟩
  · dsimp only [Pt.U, Pt.locs, Pt.cells, Pt.slots] at X' e1 e2 h1 h2 h3 st
    subst h1; subst h2; subst h3
    exact Or.inl ⟨v, (T.setVm vm₁).calling g' mk As.toArray, t, U', L, hT, X', hL, e1, e2, hq, st⟩
  · dsimp only [Pt.U, Pt.locs, Pt.cells, Pt.slots] at X' e1 e2 h1 h2 h3 st hcl
    subst h1; subst h2; subst h3
    exact Or.inr ⟨q, (T.setVm vm₁).calling g' mk As.toArray, t, U', L, E, ce, hT, X', hL, e1, e2, hq, hce, hcv, vx_cls hW₁ hcl, st⟩
end
end VXH
theorem vx_ofWH {l : Launch} {y : MethodName} {ws ws' : List Cond} {rm : Room} {Pc : Array Value → State → Prop} {Qc : Array Value → State → Outcome → State → Prop} {XC : String → State → State → Prop} {mc ms : Nat} {free : Addr → Prop} {cc : ByteArray} {maxL : Nat} {ret : Option FieldType} {hh : List (Nat × Nat × Nat × Nat)}
    (hy : plainName y.cls = true) (hw : ws = Cond.codeWith y cc maxL ret hh :: ws')
    (body : ∀ p e s m args below meth c s₁, BodyLoose p l y (headSpec ws rm) cc maxL ret e s m args below meth c s₁ → c.maxLocals = maxL → Pc args s →
      W p l e (headSpec ws rm).room s m args below meth c s.heap [] 0 0 (vx_MQ below Qc XC args s mc ms free) (entryFrame m args maxL)) : vx_Met l y ws rm Pc Qc XC mc ms free := by
  refine MetFree.of_bodyS (code := cc) (maxLocals := maxL) (ret := ret) hy ?_ ?_
  · intro args s m h hn
    obtain ⟨m9, meth, c, hn9, h1, h2, h3, h4, -, h5, h6, -⟩ := Cond.codeWith_spec (atoms_spec (ws := ws) h _ (by rw [hw]; exact List.mem_cons_self))
    cases hn.symm.trans hn9
    exact ⟨meth, c, h1, h2, h3, h4, h5, h6⟩
  · intro p e s m args below meth c s₁ B hml hP _
    have hh0 : s₁.heap = s.heap := by rw [B.state]; rfl
    obtain ⟨t, a1, o, b1, b2, b3⟩ := body p e s m args below meth c s₁ B hml hP s₁ hh0 (Stand.of_body B)
    exact ⟨t, o, a1, b1, b2, b3⟩
/-! ===== END ===== -/
end
section
def RX0 : String := "TableChanger"
def TX0 : u_T := fun k => match k with
  | 0 => ("TableChanger", "oldA", "[I", true)
  | 1 => ("TableChanger", "oldB", "[I", true)
  | 2 => ("TableChanger", "shadowColumns", "[[I", true)
  | 3 => ("TableChanger", "refusedKeys", "[Z", true)
  | 4 => ("TableChanger", "notedKeys", "[I", true)
  | 5 => ("TableChanger", "noteCount", "I", false)
  | 6 => ("TableChanger", "currentPhase", "I", false)
  | 7 => ("TableChanger", "currentMark", "I", false)
  | 8 => ("TableChanger", "currentAlteration", "I", false)
  | 9 => ("TableChanger", "currentParameter", "I", false)
  | 10 => ("TableChanger", "chunkSize", "I", false)
  | _ => ("TableChanger", "greatestLag", "I", false)
def tyX0 : Nat → FieldType := fun k => match k with
  | 0 => .array .int
  | 1 => .array .int
  | 2 => .array (.array .int)
  | 3 => .array .boolean
  | 4 => .array .int
  | 5 => .int
  | 6 => .int
  | 7 => .int
  | 8 => .int
  | 9 => .int
  | 10 => .int
  | _ => .int
abbrev wsX00 : List Cond := u_ws RX0 TX0 12
theorem nmX0 : ∀ a, a < 12 → ∀ b, b < 12 → a ≠ b → (TX0 a).2.1 ≠ (TX0 b).2.1 := by decide +kernel
theorem tyX0_ok : ∀ k, k < 12 → parseFieldDescriptor (TX0 k).2.2.1 = some (tyX0 k) := by decide +kernel
abbrev cX0_init : ByteArray := prog_1_method_1_code
def yX0_init : MethodName := ⟨RX0, "<init>", "()V"⟩
abbrev cX0_insert : ByteArray := prog_1_method_2_code
def yX0_insert : MethodName := ⟨RX0, "insert", "(III)V"⟩
abbrev cX0_update : ByteArray := prog_1_method_3_code
def yX0_update : MethodName := ⟨RX0, "update", "(III)V"⟩
abbrev cX0_delete : ByteArray := prog_1_method_4_code
def yX0_delete : MethodName := ⟨RX0, "delete", "(I)I"⟩
abbrev cX0_rekey : ByteArray := prog_1_method_5_code
def yX0_rekey : MethodName := ⟨RX0, "rekey", "(II)V"⟩
abbrev cX0_start : ByteArray := prog_1_method_6_code
def yX0_start : MethodName := ⟨RX0, "start", "(II)V"⟩
abbrev cX0_setPace : ByteArray := prog_1_method_7_code
def yX0_setPace : MethodName := ⟨RX0, "setPace", "(II)V"⟩
abbrev cX0_tick : ByteArray := prog_1_method_8_code
def yX0_tick : MethodName := ⟨RX0, "tick", "(I)I"⟩
abbrev cX0_cutOver : ByteArray := prog_1_method_9_code
def yX0_cutOver : MethodName := ⟨RX0, "cutOver", "(I)I"⟩
abbrev cX0_undo : ByteArray := prog_1_method_10_code
def yX0_undo : MethodName := ⟨RX0, "undo", "()V"⟩
abbrev cX0_finish : ByteArray := prog_1_method_11_code
def yX0_finish : MethodName := ⟨RX0, "finish", "()I"⟩
abbrev cX0_giveUp : ByteArray := prog_1_method_12_code
def yX0_giveUp : MethodName := ⟨RX0, "giveUp", "()I"⟩
abbrev cX0_row : ByteArray := prog_1_method_13_code
def yX0_row : MethodName := ⟨RX0, "row", "(I)I"⟩
abbrev cX0_rows : ByteArray := prog_1_method_14_code
def yX0_rows : MethodName := ⟨RX0, "rows", "()I"⟩
abbrev cX0_phase : ByteArray := prog_1_method_15_code
def yX0_phase : MethodName := ⟨RX0, "phase", "()I"⟩
abbrev cX0_mark : ByteArray := prog_1_method_16_code
def yX0_mark : MethodName := ⟨RX0, "mark", "()I"⟩
abbrev cX0_notes : ByteArray := prog_1_method_17_code
def yX0_notes : MethodName := ⟨RX0, "notes", "()I"⟩
abbrev cX0_shadow : ByteArray := prog_1_method_18_code
def yX0_shadow : MethodName := ⟨RX0, "shadow", "(II)I"⟩
abbrev cX0_shadowRows : ByteArray := prog_1_method_19_code
def yX0_shadowRows : MethodName := ⟨RX0, "shadowRows", "()I"⟩
abbrev cX0_isRefused : ByteArray := prog_1_method_20_code
def yX0_isRefused : MethodName := ⟨RX0, "isRefused", "(I)Z"⟩
abbrev cX0_behind : ByteArray := prog_1_method_21_code
def yX0_behind : MethodName := ⟨RX0, "behind", "()I"⟩
abbrev cX0_sum : ByteArray := prog_1_method_22_code
def yX0_sum : MethodName := ⟨RX0, "sum", "(I)I"⟩
abbrev cX0_sumAtOnce : ByteArray := prog_1_method_23_code
def yX0_sumAtOnce : MethodName := ⟨RX0, "sumAtOnce", "(I)I"⟩
abbrev cX0_isWithin : ByteArray := prog_1_method_24_code
def yX0_isWithin : MethodName := ⟨RX0, "isWithin", "(III)Z"⟩
abbrev cX0_isKey : ByteArray := prog_1_method_25_code
def yX0_isKey : MethodName := ⟨RX0, "isKey", "(I)Z"⟩
abbrev cX0_isColumn : ByteArray := prog_1_method_26_code
def yX0_isColumn : MethodName := ⟨RX0, "isColumn", "(I)Z"⟩
abbrev cX0_canBeWritten : ByteArray := prog_1_method_27_code
def yX0_canBeWritten : MethodName := ⟨RX0, "canBeWritten", "(II)Z"⟩
abbrev cX0_isInOld : ByteArray := prog_1_method_28_code
def yX0_isInOld : MethodName := ⟨RX0, "isInOld", "(I)Z"⟩
abbrev cX0_isInShadow : ByteArray := prog_1_method_29_code
def yX0_isInShadow : MethodName := ⟨RX0, "isInShadow", "(I)Z"⟩
abbrev cX0_isSeen : ByteArray := prog_1_method_30_code
def yX0_isSeen : MethodName := ⟨RX0, "isSeen", "(I)Z"⟩
abbrev cX0_rowAsNumber : ByteArray := prog_1_method_31_code
def yX0_rowAsNumber : MethodName := ⟨RX0, "rowAsNumber", "(I)I"⟩
abbrev cX0_putRow : ByteArray := prog_1_method_32_code
def yX0_putRow : MethodName := ⟨RX0, "putRow", "(III)V"⟩
abbrev cX0_removeRow : ByteArray := prog_1_method_33_code
def yX0_removeRow : MethodName := ⟨RX0, "removeRow", "(I)V"⟩
abbrev cX0_removeRowsWithoutShadow : ByteArray := prog_1_method_34_code
def yX0_removeRowsWithoutShadow : MethodName := ⟨RX0, "removeRowsWithoutShadow", "()I"⟩
abbrev cX0_fits : ByteArray := prog_1_method_35_code
def yX0_fits : MethodName := ⟨RX0, "fits", "(I)Z"⟩
abbrev cX0_alteredColumn : ByteArray := prog_1_method_36_code
def yX0_alteredColumn : MethodName := ⟨RX0, "alteredColumn", "(III)I"⟩
abbrev cX0_alteredMiddle : ByteArray := prog_1_method_37_code
def yX0_alteredMiddle : MethodName := ⟨RX0, "alteredMiddle", "(II)I"⟩
abbrev cX0_alteredLast : ByteArray := prog_1_method_38_code
def yX0_alteredLast : MethodName := ⟨RX0, "alteredLast", "(I)I"⟩
abbrev cX0_digits : ByteArray := prog_1_method_39_code
def yX0_digits : MethodName := ⟨RX0, "digits", "(I)I"⟩
abbrev cX0_broughtColumn : ByteArray := prog_1_method_40_code
def yX0_broughtColumn : MethodName := ⟨RX0, "broughtColumn", "(II)I"⟩
abbrev cX0_bring : ByteArray := prog_1_method_41_code
def yX0_bring : MethodName := ⟨RX0, "bring", "(I)V"⟩
abbrev cX0_isBehind : ByteArray := prog_1_method_42_code
def yX0_isBehind : MethodName := ⟨RX0, "isBehind", "(I)Z"⟩
abbrev cX0_followWrite : ByteArray := prog_1_method_43_code
def yX0_followWrite : MethodName := ⟨RX0, "followWrite", "(I)V"⟩
abbrev cX0_noteKey : ByteArray := prog_1_method_44_code
def yX0_noteKey : MethodName := ⟨RX0, "noteKey", "(I)V"⟩
abbrev cX0_copyChunk : ByteArray := prog_1_method_45_code
def yX0_copyChunk : MethodName := ⟨RX0, "copyChunk", "()I"⟩
abbrev cX0_playNotes : ByteArray := prog_1_method_46_code
def yX0_playNotes : MethodName := ⟨RX0, "playNotes", "(I)I"⟩
abbrev cX0_endChange : ByteArray := prog_1_method_47_code
def yX0_endChange : MethodName := ⟨RX0, "endChange", "()V"⟩
def RX1 : String := "TableChangerModel"
def TX1 : u_T := fun k => match k with
  | _ => ("", "", "", false)
def tyX1 : Nat → FieldType := fun k => match k with
  | _ => .int
abbrev wsX10 : List Cond := u_ws RX1 TX1 0
theorem nmX1 : ∀ a, a < 0 → ∀ b, b < 0 → a ≠ b → (TX1 a).2.1 ≠ (TX1 b).2.1 := by decide +kernel
theorem tyX1_ok : ∀ k, k < 0 → parseFieldDescriptor (TX1 k).2.2.1 = some (tyX1 k) := by decide +kernel
def RJx145de : String := "java/io/Serializable"
def TJx145de : u_T := fun k => match k with
  | _ => ("", "", "", false)
def tyJx145de : Nat → FieldType := fun k => match k with
  | _ => .int
abbrev wsJx145de0 : List Cond := u_ws RJx145de TJx145de 0
theorem nmJx145de : ∀ a, a < 0 → ∀ b, b < 0 → a ≠ b → (TJx145de a).2.1 ≠ (TJx145de b).2.1 := by decide +kernel
theorem tyJx145de_ok : ∀ k, k < 0 → parseFieldDescriptor (TJx145de k).2.2.1 = some (tyJx145de k) := by decide +kernel
def RJ9 : String := "java/lang/Math"
def TJ9 : u_T := fun k => match k with
  | _ => ("", "", "", false)
def tyJ9 : Nat → FieldType := fun k => match k with
  | _ => .int
abbrev wsJ90 : List Cond := u_ws RJ9 TJ9 0
theorem nmJ9 : ∀ a, a < 0 → ∀ b, b < 0 → a ≠ b → (TJ9 a).2.1 ≠ (TJ9 b).2.1 := by decide +kernel
theorem tyJ9_ok : ∀ k, k < 0 → parseFieldDescriptor (TJ9 k).2.2.1 = some (tyJ9 k) := by decide +kernel
abbrev cJ9_max_7cf53 : ByteArray := prog_9_method_65_code
def yJ9_max_7cf53 : MethodName := ⟨RJ9, "max", "(II)I"⟩
abbrev cJ9_min_7cf53 : ByteArray := prog_9_method_69_code
def yJ9_min_7cf53 : MethodName := ⟨RJ9, "min", "(II)I"⟩
def RJ0 : String := "java/lang/String"
def TJ0 : u_T := fun k => match k with
  | _ => ("", "", "", false)
def tyJ0 : Nat → FieldType := fun k => match k with
  | _ => .int
abbrev wsJ00 : List Cond := u_ws RJ0 TJ0 0
theorem nmJ0 : ∀ a, a < 0 → ∀ b, b < 0 → a ≠ b → (TJ0 a).2.1 ≠ (TJ0 b).2.1 := by decide +kernel
theorem tyJ0_ok : ∀ k, k < 0 → parseFieldDescriptor (TJ0 k).2.2.1 = some (tyJ0 k) := by decide +kernel
def RJ10 : String := "java/lang/System"
def TJ10 : u_T := fun k => match k with
  | _ => ("", "", "", false)
def tyJ10 : Nat → FieldType := fun k => match k with
  | _ => .int
abbrev wsJ100 : List Cond := u_ws RJ10 TJ10 0
theorem nmJ10 : ∀ a, a < 0 → ∀ b, b < 0 → a ≠ b → (TJ10 a).2.1 ≠ (TJ10 b).2.1 := by decide +kernel
theorem tyJ10_ok : ∀ k, k < 0 → parseFieldDescriptor (TJ10 k).2.2.1 = some (tyJ10 k) := by decide +kernel
def RJ7 : String := "java/util/Arrays"
def TJ7 : u_T := fun k => match k with
  | _ => ("", "", "", false)
def tyJ7 : Nat → FieldType := fun k => match k with
  | _ => .int
abbrev wsJ70 : List Cond := u_ws RJ7 TJ7 0
theorem nmJ7 : ∀ a, a < 0 → ∀ b, b < 0 → a ≠ b → (TJ7 a).2.1 ≠ (TJ7 b).2.1 := by decide +kernel
theorem tyJ7_ok : ∀ k, k < 0 → parseFieldDescriptor (TJ7 k).2.2.1 = some (tyJ7 k) := by decide +kernel
abbrev cJ7_fill_53178 : ByteArray := prog_14_method_103_code
def yJ7_fill_53178 : MethodName := ⟨RJ7, "fill", "([II)V"⟩
def RL : String := "TableChangerLaw"
abbrev cL_draw : ByteArray := method_2_code
def yL_draw : MethodName := ⟨RL, "draw", "([III)I"⟩
abbrev cL_writes : ByteArray := method_3_code
def yL_writes : MethodName := ⟨RL, "writes", "(LTableChanger;IIII)I"⟩
abbrev cL_asks : ByteArray := method_4_code
def yL_asks : MethodName := ⟨RL, "asks", "(LTableChanger;IIII)I"⟩
abbrev cL_undoes : ByteArray := method_5_code
def yL_undoes : MethodName := ⟨RL, "undoes", "(LTableChanger;)I"⟩
abbrev cL_starts : ByteArray := method_6_code
def yL_starts : MethodName := ⟨RL, "starts", "(LTableChanger;II)I"⟩
abbrev cL_altered : ByteArray := method_7_code
def yL_altered : MethodName := ⟨RL, "altered", "([III)I"⟩
abbrev cL_isEven : ByteArray := method_8_code
def yL_isEven : MethodName := ⟨RL, "isEven", "(LTableChanger;[I[II)Z"⟩
abbrev cL_isSeen : ByteArray := method_9_code
def yL_isSeen : MethodName := ⟨RL, "isSeen", "(LTableChanger;[I[II)Z"⟩
abbrev cL_isTold : ByteArray := method_10_code
def yL_isTold : MethodName := ⟨RL, "isTold", "(LTableChanger;[I[I)Z"⟩
abbrev cL_client : ByteArray := method_11_code
def yL_client : MethodName := ⟨RL, "client", "(LTableChanger;IIII[I[I)Z"⟩
abbrev cL_ticks : ByteArray := method_12_code
def yL_ticks : MethodName := ⟨RL, "ticks", "(LTableChanger;I[I[I)Z"⟩
abbrev cL_changes : ByteArray := method_13_code
def yL_changes : MethodName := ⟨RL, "changes", "(LTableChanger;III[I[I)Z"⟩
abbrev cL_step : ByteArray := method_14_code
def yL_step : MethodName := ⟨RL, "step", "(LTableChanger;III[I[I)Z"⟩
abbrev cL_table : ByteArray := method_15_code
def yL_table : MethodName := ⟨RL, "table", "([II)Z"⟩
abbrev cL_law : ByteArray := code
def yL_law : MethodName := ⟨RL, "law", "([I)Z"⟩
abbrev vwCl : List vw_C := [(RX0, TX0, 12)]
end
section
/-! MINE: the words of the tables that a warmed state keeps, as one list for every method. -/
def WL : List Cond := lw_tbl.filter goodWord
theorem wk_of {w : Cond} {i : Nat} (h : lw_tbl[i]? = some w) (g : goodWord w = true) : w ∈ WL := List.mem_filter.mpr ⟨List.mem_of_getElem? h, g⟩
theorem wk_tbl {w : Cond} (h : w ∈ WL) : w ∈ lw_tbl := (List.mem_filter.mp h).1
theorem wk_good {y y' : Cond} (h : y' ∈ WL) : GoodIn (y :: WL) (y' :: WL) := fun w hw => by
  have h1 : w ∈ WL := (List.mem_cons.mp hw).elim (fun e => by rw [e]; exact h) id
  exact ⟨List.mem_cons_of_mem _ h1, good_of_word (List.mem_filter.mp h1).2⟩
theorem wk_goodL {y' : Cond} (h : y' ∈ WL) : GoodIn WL (y' :: WL) := fun w hw => by
  have h1 : w ∈ WL := (List.mem_cons.mp hw).elim (fun e => by rw [e]; exact h) id
  exact ⟨h1, good_of_word (List.mem_filter.mp h1).2⟩
theorem wk_X0 : ∀ w ∈ wsX00, w ∈ WL := fun w hw => by
  obtain ⟨k, hk, rfl⟩ := List.mem_map.mp hw
  exact (show ∀ k, k < 12 → u_lay RX0 TX0 k ∈ WL from fun k hk => List.mem_filter.mpr ⟨(show ∀ k, k < 12 → u_lay RX0 TX0 k ∈ lw_tbl by decide +kernel) k hk, (show ∀ k, k < 12 → goodWord (u_lay RX0 TX0 k) = true by decide +kernel) k hk⟩) k (List.mem_range.mp hk)
theorem wk_0 : (Cond.initialized RL : Cond) ∈ WL := wk_of (i := 21) (by decide +kernel) (by decide +kernel)
theorem wk_1 : (Cond.initialized RX0 : Cond) ∈ WL := wk_of (i := 22) (by decide +kernel) (by decide +kernel)
theorem wk_2 : (Cond.initialized RJ7 : Cond) ∈ WL := wk_of (i := 23) (by decide +kernel) (by decide +kernel)
theorem wk_3 : (Cond.initialized "java/lang/Throwable" : Cond) ∈ WL := wk_of (i := 24) (by decide +kernel) (by decide +kernel)
theorem wk_4 : (Cond.initialized "java/lang/Exception" : Cond) ∈ WL := wk_of (i := 25) (by decide +kernel) (by decide +kernel)
theorem wk_5 : (Cond.initialized "java/lang/RuntimeException" : Cond) ∈ WL := wk_of (i := 26) (by decide +kernel) (by decide +kernel)
theorem wk_6 : (Cond.initialized "java/lang/IndexOutOfBoundsException" : Cond) ∈ WL := wk_of (i := 27) (by decide +kernel) (by decide +kernel)
theorem wk_7 : (Cond.initialized "java/lang/IllegalArgumentException" : Cond) ∈ WL := wk_of (i := 28) (by decide +kernel) (by decide +kernel)
theorem wk_8 : (Cond.initialized "java/lang/IllegalStateException" : Cond) ∈ WL := wk_of (i := 29) (by decide +kernel) (by decide +kernel)
theorem wk_9 : (Cond.initialized "java/util/NoSuchElementException" : Cond) ∈ WL := wk_of (i := 30) (by decide +kernel) (by decide +kernel)
theorem wk_10 : (Cond.initialized RJ9 : Cond) ∈ WL := wk_of (i := 31) (by decide +kernel) (by decide +kernel)
theorem wk_11 : (Cond.initialized RJ10 : Cond) ∈ WL := wk_of (i := 32) (by decide +kernel) (by decide +kernel)
theorem wk_12 : (Cond.methodLink RL 142 yL_table : Cond) ∈ WL := wk_of (i := 33) (by decide +kernel) (by decide +kernel)
theorem wk_13 : (Cond.static yL_table : Cond) ∈ WL := wk_of (i := 34) (by decide +kernel) (by decide +kernel)
theorem wk_14 : (Cond.code yL_table cL_table 9 (some .boolean) : Cond) ∈ WL := wk_of (i := 35) (by decide +kernel) (by decide +kernel)
theorem wk_15 : (Cond.classLink RL 11 RX0 : Cond) ∈ WL := wk_of (i := 36) (by decide +kernel) (by decide +kernel)
theorem wk_16 : (Cond.instantiable RX0 12 : Cond) ∈ WL := wk_of (i := 37) (by decide +kernel) (by decide +kernel)
theorem wk_17 : (Cond.methodLink RL 130 yX0_init : Cond) ∈ WL := wk_of (i := 38) (by decide +kernel) (by decide +kernel)
theorem wk_18 : (Cond.instanceMethod yX0_init : Cond) ∈ WL := wk_of (i := 39) (by decide +kernel) (by decide +kernel)
theorem wk_19 : (Cond.code yX0_init cX0_init 5 none : Cond) ∈ WL := wk_of (i := 40) (by decide +kernel) (by decide +kernel)
theorem wk_20 : (Cond.methodLink RX0 1 objectInit : Cond) ∈ WL := wk_of (i := 41) (by decide +kernel) (by decide +kernel)
theorem wk_21 : (Cond.instanceMethod objectInit : Cond) ∈ WL := wk_of (i := 42) (by decide +kernel) (by decide +kernel)
theorem wk_22 : (Cond.code objectInit ⟨#[0xb1]⟩ 1 none : Cond) ∈ WL := wk_of (i := 43) (by decide +kernel) (by decide +kernel)
theorem wk_23 : (Cond.classLink RX0 16 "[[I" : Cond) ∈ WL := wk_of (i := 44) (by decide +kernel) (by decide +kernel)
theorem wk_25 : (Cond.methodLink RX0 28 yJ7_fill_53178 : Cond) ∈ WL := wk_of (i := 46) (by decide +kernel) (by decide +kernel)
theorem wk_26 : (Cond.static yJ7_fill_53178 : Cond) ∈ WL := wk_of (i := 47) (by decide +kernel) (by decide +kernel)
theorem wk_27 : (Cond.code yJ7_fill_53178 cJ7_fill_53178 4 none : Cond) ∈ WL := wk_of (i := 48) (by decide +kernel) (by decide +kernel)
theorem wk_28 : (Cond.fieldLink RX0 9 "TableChanger" "oldA" "[I" : Cond) ∈ WL := wk_of (i := 49) (by decide +kernel) (by decide +kernel)
theorem wk_29 : (Cond.fieldLink RX0 13 "TableChanger" "oldB" "[I" : Cond) ∈ WL := wk_of (i := 50) (by decide +kernel) (by decide +kernel)
theorem wk_30 : (Cond.fieldLink RX0 18 "TableChanger" "shadowColumns" "[[I" : Cond) ∈ WL := wk_of (i := 51) (by decide +kernel) (by decide +kernel)
theorem wk_31 : (Cond.fieldLink RX0 21 "TableChanger" "refusedKeys" "[Z" : Cond) ∈ WL := wk_of (i := 52) (by decide +kernel) (by decide +kernel)
theorem wk_32 : (Cond.fieldLink RX0 25 "TableChanger" "notedKeys" "[I" : Cond) ∈ WL := wk_of (i := 53) (by decide +kernel) (by decide +kernel)
theorem wk_33 : (Cond.fieldLink RX0 134 "TableChanger" "noteCount" "I" : Cond) ∈ WL := wk_of (i := 54) (by decide +kernel) (by decide +kernel)
theorem wk_34 : (Cond.fieldLink RX0 34 "TableChanger" "currentPhase" "I" : Cond) ∈ WL := wk_of (i := 55) (by decide +kernel) (by decide +kernel)
theorem wk_35 : (Cond.fieldLink RX0 121 "TableChanger" "currentMark" "I" : Cond) ∈ WL := wk_of (i := 56) (by decide +kernel) (by decide +kernel)
theorem wk_36 : (Cond.fieldLink RX0 115 "TableChanger" "currentAlteration" "I" : Cond) ∈ WL := wk_of (i := 57) (by decide +kernel) (by decide +kernel)
theorem wk_37 : (Cond.fieldLink RX0 118 "TableChanger" "currentParameter" "I" : Cond) ∈ WL := wk_of (i := 58) (by decide +kernel) (by decide +kernel)
theorem wk_38 : (Cond.fieldLink RX0 38 "TableChanger" "chunkSize" "I" : Cond) ∈ WL := wk_of (i := 59) (by decide +kernel) (by decide +kernel)
theorem wk_39 : (Cond.fieldLink RX0 41 "TableChanger" "greatestLag" "I" : Cond) ∈ WL := wk_of (i := 60) (by decide +kernel) (by decide +kernel)
theorem wk_65 : (Cond.arrayClass .int : Cond) ∈ WL := wk_of (i := 86) (by decide +kernel) (by decide +kernel)
theorem wk_66 : (Cond.arrayClass .boolean : Cond) ∈ WL := wk_of (i := 87) (by decide +kernel) (by decide +kernel)
theorem wk_67 : (Cond.constant RL 131 1073741824 : Cond) ∈ WL := wk_of (i := 88) (by decide +kernel) (by decide +kernel)
theorem wk_68 : (Cond.methodLink RL 132 yL_draw : Cond) ∈ WL := wk_of (i := 89) (by decide +kernel) (by decide +kernel)
theorem wk_69 : (Cond.static yL_draw : Cond) ∈ WL := wk_of (i := 90) (by decide +kernel) (by decide +kernel)
theorem wk_70 : (Cond.code yL_draw cL_draw 4 (some .int) : Cond) ∈ WL := wk_of (i := 91) (by decide +kernel) (by decide +kernel)
theorem wk_71 : (Cond.constant RL 7 970057669 : Cond) ∈ WL := wk_of (i := 92) (by decide +kernel) (by decide +kernel)
theorem wk_72 : (Cond.constant RL 8 718652401 : Cond) ∈ WL := wk_of (i := 93) (by decide +kernel) (by decide +kernel)
theorem wk_73 : (Cond.constant RL 9 2147483647 : Cond) ∈ WL := wk_of (i := 94) (by decide +kernel) (by decide +kernel)
theorem wk_74 : (Cond.methodLink RL 135 yL_step : Cond) ∈ WL := wk_of (i := 95) (by decide +kernel) (by decide +kernel)
theorem wk_75 : (Cond.static yL_step : Cond) ∈ WL := wk_of (i := 96) (by decide +kernel) (by decide +kernel)
theorem wk_76 : (Cond.code yL_step cL_step 8 (some .boolean) : Cond) ∈ WL := wk_of (i := 97) (by decide +kernel) (by decide +kernel)
theorem wk_77 : (Cond.methodLink RL 115 yL_client : Cond) ∈ WL := wk_of (i := 98) (by decide +kernel) (by decide +kernel)
theorem wk_78 : (Cond.static yL_client : Cond) ∈ WL := wk_of (i := 99) (by decide +kernel) (by decide +kernel)
set_option maxRecDepth 100000 in
theorem wk_79 : (Cond.code yL_client cL_client 15 (some .boolean) : Cond) ∈ WL := wk_of (i := 100) rfl (by decide +kernel)
theorem wk_80 : (Cond.methodLink RL 83 yL_isSeen : Cond) ∈ WL := wk_of (i := 101) (by decide +kernel) (by decide +kernel)
theorem wk_81 : (Cond.static yL_isSeen : Cond) ∈ WL := wk_of (i := 102) (by decide +kernel) (by decide +kernel)
theorem wk_82 : (Cond.code yL_isSeen cL_isSeen 4 (some .boolean) : Cond) ∈ WL := wk_of (i := 103) (by decide +kernel) (by decide +kernel)
theorem wk_83 : (Cond.methodLink RL 66 yX0_shadow : Cond) ∈ WL := wk_of (i := 104) (by decide +kernel) (by decide +kernel)
theorem wk_84 : (Cond.instanceMethod yX0_shadow : Cond) ∈ WL := wk_of (i := 105) (by decide +kernel) (by decide +kernel)
theorem wk_85 : (Cond.selects RX0 yX0_shadow yX0_shadow : Cond) ∈ WL := wk_of (i := 106) (by decide +kernel) (by decide +kernel)
theorem wk_86 : (Cond.code yX0_shadow cX0_shadow 3 (some .int) : Cond) ∈ WL := wk_of (i := 107) (by decide +kernel) (by decide +kernel)
theorem wk_87 : (Cond.methodLink RX0 44 yX0_isKey : Cond) ∈ WL := wk_of (i := 108) (by decide +kernel) (by decide +kernel)
theorem wk_88 : (Cond.static yX0_isKey : Cond) ∈ WL := wk_of (i := 109) (by decide +kernel) (by decide +kernel)
theorem wk_89 : (Cond.code yX0_isKey cX0_isKey 1 (some .boolean) : Cond) ∈ WL := wk_of (i := 110) (by decide +kernel) (by decide +kernel)
theorem wk_90 : (Cond.methodLink RX0 107 yX0_isWithin : Cond) ∈ WL := wk_of (i := 111) (by decide +kernel) (by decide +kernel)
theorem wk_91 : (Cond.static yX0_isWithin : Cond) ∈ WL := wk_of (i := 112) (by decide +kernel) (by decide +kernel)
theorem wk_92 : (Cond.code yX0_isWithin cX0_isWithin 3 (some .boolean) : Cond) ∈ WL := wk_of (i := 113) (by decide +kernel) (by decide +kernel)
theorem wk_93 : (Cond.methodLink RX0 155 yX0_isColumn : Cond) ∈ WL := wk_of (i := 114) (by decide +kernel) (by decide +kernel)
theorem wk_94 : (Cond.static yX0_isColumn : Cond) ∈ WL := wk_of (i := 115) (by decide +kernel) (by decide +kernel)
theorem wk_95 : (Cond.code yX0_isColumn cX0_isColumn 1 (some .boolean) : Cond) ∈ WL := wk_of (i := 116) (by decide +kernel) (by decide +kernel)
theorem wk_96 : (Cond.classLink RX0 48 "java/lang/IndexOutOfBoundsException" : Cond) ∈ WL := wk_of (i := 117) (by decide +kernel) (by decide +kernel)
theorem wk_97 : (Cond.instantiable "java/lang/IndexOutOfBoundsException" 6 : Cond) ∈ WL := wk_of (i := 118) (by decide +kernel) (by decide +kernel)
theorem wk_105 : (Cond.selects "java/lang/IndexOutOfBoundsException" (⟨"java/lang/Throwable", "fillInStackTrace", "(I)Ljava/lang/Throwable;"⟩ : MethodName) (⟨"java/lang/Throwable", "fillInStackTrace", "(I)Ljava/lang/Throwable;"⟩ : MethodName) : Cond) ∈ WL := wk_of (i := 126) (by decide +kernel) (by decide +kernel)
theorem wk_106 : (Cond.selects "java/lang/IndexOutOfBoundsException" (⟨"java/lang/Throwable", "fillInStackTrace", "()Ljava/lang/Throwable;"⟩ : MethodName) (⟨"java/lang/Throwable", "fillInStackTrace", "()Ljava/lang/Throwable;"⟩ : MethodName) : Cond) ∈ WL := wk_of (i := 127) (by decide +kernel) (by decide +kernel)
theorem wk_117 : (Cond.fieldLink "java/lang/Throwable" 198 "java/lang/Throwable" "backtrace" "Ljava/lang/Object;" : Cond) ∈ WL := wk_of (i := 138) (by decide +kernel) (by decide +kernel)
theorem wk_119 : (Cond.instanceMethod (⟨"java/lang/Throwable", "<init>", "()V"⟩ : MethodName) : Cond) ∈ WL := wk_of (i := 140) (by decide +kernel) (by decide +kernel)
theorem wk_120 : (Cond.code (⟨"java/lang/Throwable", "<init>", "()V"⟩ : MethodName) prog_13_method_1_code 1 none : Cond) ∈ WL := wk_of (i := 141) (by decide +kernel) (by decide +kernel)
theorem wk_121 : (Cond.methodLink "java/lang/Throwable" 1 objectInit : Cond) ∈ WL := wk_of (i := 142) (by decide +kernel) (by decide +kernel)
theorem wk_122 : (Cond.fieldLink "java/lang/Throwable" 13 "java/lang/Throwable" "UNASSIGNED_STACK" "[Ljava/lang/StackTraceElement;" : Cond) ∈ WL := wk_of (i := 143) (by decide +kernel) (by decide +kernel)
theorem wk_124 : (Cond.fieldLink "java/lang/Throwable" 20 "java/lang/Throwable" "SUPPRESSED_SENTINEL" "Ljava/util/List;" : Cond) ∈ WL := wk_of (i := 145) (by decide +kernel) (by decide +kernel)
theorem wk_126 : (Cond.methodLink "java/lang/Throwable" 27 (⟨"java/lang/Throwable", "fillInStackTrace", "()Ljava/lang/Throwable;"⟩ : MethodName) : Cond) ∈ WL := wk_of (i := 147) (by decide +kernel) (by decide +kernel)
theorem wk_127 : (Cond.instanceMethod (⟨"java/lang/Throwable", "fillInStackTrace", "()Ljava/lang/Throwable;"⟩ : MethodName) : Cond) ∈ WL := wk_of (i := 148) (by decide +kernel) (by decide +kernel)
theorem wk_129 : (Cond.selects "java/lang/IllegalArgumentException" (⟨"java/lang/Throwable", "fillInStackTrace", "()Ljava/lang/Throwable;"⟩ : MethodName) (⟨"java/lang/Throwable", "fillInStackTrace", "()Ljava/lang/Throwable;"⟩ : MethodName) : Cond) ∈ WL := wk_of (i := 150) (by decide +kernel) (by decide +kernel)
theorem wk_130 : (Cond.selects "java/lang/IllegalStateException" (⟨"java/lang/Throwable", "fillInStackTrace", "()Ljava/lang/Throwable;"⟩ : MethodName) (⟨"java/lang/Throwable", "fillInStackTrace", "()Ljava/lang/Throwable;"⟩ : MethodName) : Cond) ∈ WL := wk_of (i := 151) (by decide +kernel) (by decide +kernel)
theorem wk_131 : (Cond.selects "java/util/NoSuchElementException" (⟨"java/lang/Throwable", "fillInStackTrace", "()Ljava/lang/Throwable;"⟩ : MethodName) (⟨"java/lang/Throwable", "fillInStackTrace", "()Ljava/lang/Throwable;"⟩ : MethodName) : Cond) ∈ WL := wk_of (i := 152) (by decide +kernel) (by decide +kernel)
theorem wk_133 : (Cond.methodLink "java/lang/Throwable" 202 (⟨"java/lang/Throwable", "fillInStackTrace", "(I)Ljava/lang/Throwable;"⟩ : MethodName) : Cond) ∈ WL := wk_of (i := 154) (by decide +kernel) (by decide +kernel)
theorem wk_135 : (Cond.instanceMethod (⟨"java/lang/Throwable", "fillInStackTrace", "(I)Ljava/lang/Throwable;"⟩ : MethodName) : Cond) ∈ WL := wk_of (i := 156) (by decide +kernel) (by decide +kernel)
theorem wk_136 : (Cond.instantiable "java/lang/Throwable" 6 : Cond) ∈ WL := wk_of (i := 157) (by decide +kernel) (by decide +kernel)
theorem wk_137 : (Cond.native (⟨"java/lang/Throwable", "fillInStackTrace", "(I)Ljava/lang/Throwable;"⟩ : MethodName) : Cond) ∈ WL := wk_of (i := 158) (by decide +kernel) (by decide +kernel)
theorem wk_139 : (Cond.methodLink RX0 52 (⟨"java/lang/IndexOutOfBoundsException", "<init>", "(Ljava/lang/String;)V"⟩ : MethodName) : Cond) ∈ WL := wk_of (i := 160) (by decide +kernel) (by decide +kernel)
theorem wk_140 : (Cond.instanceMethod (⟨"java/lang/IndexOutOfBoundsException", "<init>", "(Ljava/lang/String;)V"⟩ : MethodName) : Cond) ∈ WL := wk_of (i := 161) (by decide +kernel) (by decide +kernel)
theorem wk_141 : (Cond.code (⟨"java/lang/IndexOutOfBoundsException", "<init>", "(Ljava/lang/String;)V"⟩ : MethodName) prog_8_method_2_code 2 none : Cond) ∈ WL := wk_of (i := 162) (by decide +kernel) (by decide +kernel)
theorem wk_142 : (Cond.methodLink "java/lang/IndexOutOfBoundsException" 7 (⟨"java/lang/RuntimeException", "<init>", "(Ljava/lang/String;)V"⟩ : MethodName) : Cond) ∈ WL := wk_of (i := 163) (by decide +kernel) (by decide +kernel)
theorem wk_143 : (Cond.instanceMethod (⟨"java/lang/RuntimeException", "<init>", "(Ljava/lang/String;)V"⟩ : MethodName) : Cond) ∈ WL := wk_of (i := 164) (by decide +kernel) (by decide +kernel)
theorem wk_144 : (Cond.code (⟨"java/lang/RuntimeException", "<init>", "(Ljava/lang/String;)V"⟩ : MethodName) prog_10_method_2_code 2 none : Cond) ∈ WL := wk_of (i := 165) (by decide +kernel) (by decide +kernel)
theorem wk_145 : (Cond.methodLink "java/lang/RuntimeException" 7 (⟨"java/lang/Exception", "<init>", "(Ljava/lang/String;)V"⟩ : MethodName) : Cond) ∈ WL := wk_of (i := 166) (by decide +kernel) (by decide +kernel)
theorem wk_146 : (Cond.instanceMethod (⟨"java/lang/Exception", "<init>", "(Ljava/lang/String;)V"⟩ : MethodName) : Cond) ∈ WL := wk_of (i := 167) (by decide +kernel) (by decide +kernel)
theorem wk_147 : (Cond.code (⟨"java/lang/Exception", "<init>", "(Ljava/lang/String;)V"⟩ : MethodName) prog_5_method_2_code 2 none : Cond) ∈ WL := wk_of (i := 168) (by decide +kernel) (by decide +kernel)
theorem wk_148 : (Cond.methodLink "java/lang/Exception" 7 (⟨"java/lang/Throwable", "<init>", "(Ljava/lang/String;)V"⟩ : MethodName) : Cond) ∈ WL := wk_of (i := 169) (by decide +kernel) (by decide +kernel)
theorem wk_149 : (Cond.instanceMethod (⟨"java/lang/Throwable", "<init>", "(Ljava/lang/String;)V"⟩ : MethodName) : Cond) ∈ WL := wk_of (i := 170) (by decide +kernel) (by decide +kernel)
theorem wk_150 : (Cond.code (⟨"java/lang/Throwable", "<init>", "(Ljava/lang/String;)V"⟩ : MethodName) prog_13_method_2_code 2 none : Cond) ∈ WL := wk_of (i := 171) (by decide +kernel) (by decide +kernel)
theorem wk_152 : (Cond.fieldLink "java/lang/Throwable" 31 "java/lang/Throwable" "detailMessage" "Ljava/lang/String;" : Cond) ∈ WL := wk_of (i := 173) (by decide +kernel) (by decide +kernel)
theorem wk_153 : (Cond.fieldLink "java/lang/Throwable" 7 "java/lang/Throwable" "cause" "Ljava/lang/Throwable;" : Cond) ∈ WL := wk_of (i := 174) (by decide +kernel) (by decide +kernel)
theorem wk_154 : (Cond.fieldLink "java/lang/Throwable" 17 "java/lang/Throwable" "stackTrace" "[Ljava/lang/StackTraceElement;" : Cond) ∈ WL := wk_of (i := 175) (by decide +kernel) (by decide +kernel)
theorem wk_155 : (Cond.fieldLink "java/lang/Throwable" 24 "java/lang/Throwable" "suppressedExceptions" "Ljava/util/List;" : Cond) ∈ WL := wk_of (i := 176) (by decide +kernel) (by decide +kernel)
theorem wk_164 : (Cond.arrayClass .byte : Cond) ∈ WL := wk_of (i := 185) (by decide +kernel) (by decide +kernel)
theorem wk_165 : (Cond.methodLink RL 70 yL_altered : Cond) ∈ WL := wk_of (i := 186) (by decide +kernel) (by decide +kernel)
theorem wk_166 : (Cond.static yL_altered : Cond) ∈ WL := wk_of (i := 187) (by decide +kernel) (by decide +kernel)
theorem wk_167 : (Cond.code yL_altered cL_altered 6 (some .int) : Cond) ∈ WL := wk_of (i := 188) (by decide +kernel) (by decide +kernel)
theorem wk_168 : (Cond.methodLink RL 106 yX0_shadowRows : Cond) ∈ WL := wk_of (i := 189) (by decide +kernel) (by decide +kernel)
theorem wk_169 : (Cond.instanceMethod yX0_shadowRows : Cond) ∈ WL := wk_of (i := 190) (by decide +kernel) (by decide +kernel)
theorem wk_170 : (Cond.selects RX0 yX0_shadowRows yX0_shadowRows : Cond) ∈ WL := wk_of (i := 191) (by decide +kernel) (by decide +kernel)
theorem wk_171 : (Cond.code yX0_shadowRows cX0_shadowRows 3 (some .int) : Cond) ∈ WL := wk_of (i := 192) (by decide +kernel) (by decide +kernel)
theorem wk_172 : (Cond.methodLink RX0 160 yX0_isInShadow : Cond) ∈ WL := wk_of (i := 193) (by decide +kernel) (by decide +kernel)
theorem wk_174 : (Cond.instanceMethod yX0_isInShadow : Cond) ∈ WL := wk_of (i := 195) (by decide +kernel) (by decide +kernel)
theorem wk_175 : (Cond.code yX0_isInShadow cX0_isInShadow 2 (some .boolean) : Cond) ∈ WL := wk_of (i := 196) (by decide +kernel) (by decide +kernel)
theorem wk_176 : (Cond.methodLink RL 109 yX0_behind : Cond) ∈ WL := wk_of (i := 197) (by decide +kernel) (by decide +kernel)
theorem wk_177 : (Cond.instanceMethod yX0_behind : Cond) ∈ WL := wk_of (i := 198) (by decide +kernel) (by decide +kernel)
theorem wk_178 : (Cond.selects RX0 yX0_behind yX0_behind : Cond) ∈ WL := wk_of (i := 199) (by decide +kernel) (by decide +kernel)
theorem wk_179 : (Cond.code yX0_behind cX0_behind 3 (some .int) : Cond) ∈ WL := wk_of (i := 200) (by decide +kernel) (by decide +kernel)
theorem wk_180 : (Cond.methodLink RX0 163 yX0_isBehind : Cond) ∈ WL := wk_of (i := 201) (by decide +kernel) (by decide +kernel)
theorem wk_182 : (Cond.instanceMethod yX0_isBehind : Cond) ∈ WL := wk_of (i := 203) (by decide +kernel) (by decide +kernel)
theorem wk_183 : (Cond.code yX0_isBehind cX0_isBehind 3 (some .boolean) : Cond) ∈ WL := wk_of (i := 204) (by decide +kernel) (by decide +kernel)
theorem wk_184 : (Cond.methodLink RX0 168 yX0_broughtColumn : Cond) ∈ WL := wk_of (i := 205) (by decide +kernel) (by decide +kernel)
theorem wk_186 : (Cond.instanceMethod yX0_broughtColumn : Cond) ∈ WL := wk_of (i := 207) (by decide +kernel) (by decide +kernel)
theorem wk_187 : (Cond.code yX0_broughtColumn cX0_broughtColumn 3 (some .int) : Cond) ∈ WL := wk_of (i := 208) (by decide +kernel) (by decide +kernel)
theorem wk_188 : (Cond.methodLink RX0 174 yX0_isInOld : Cond) ∈ WL := wk_of (i := 209) (by decide +kernel) (by decide +kernel)
theorem wk_190 : (Cond.instanceMethod yX0_isInOld : Cond) ∈ WL := wk_of (i := 211) (by decide +kernel) (by decide +kernel)
theorem wk_191 : (Cond.code yX0_isInOld cX0_isInOld 2 (some .boolean) : Cond) ∈ WL := wk_of (i := 212) (by decide +kernel) (by decide +kernel)
theorem wk_192 : (Cond.methodLink RX0 171 yX0_fits : Cond) ∈ WL := wk_of (i := 213) (by decide +kernel) (by decide +kernel)
theorem wk_194 : (Cond.instanceMethod yX0_fits : Cond) ∈ WL := wk_of (i := 215) (by decide +kernel) (by decide +kernel)
theorem wk_195 : (Cond.code yX0_fits cX0_fits 2 (some .boolean) : Cond) ∈ WL := wk_of (i := 216) (by decide +kernel) (by decide +kernel)
theorem wk_196 : (Cond.methodLink RX0 186 yX0_alteredColumn : Cond) ∈ WL := wk_of (i := 217) (by decide +kernel) (by decide +kernel)
theorem wk_198 : (Cond.instanceMethod yX0_alteredColumn : Cond) ∈ WL := wk_of (i := 219) (by decide +kernel) (by decide +kernel)
theorem wk_199 : (Cond.code yX0_alteredColumn cX0_alteredColumn 4 (some .int) : Cond) ∈ WL := wk_of (i := 220) (by decide +kernel) (by decide +kernel)
theorem wk_200 : (Cond.methodLink RX0 177 yX0_alteredMiddle : Cond) ∈ WL := wk_of (i := 221) (by decide +kernel) (by decide +kernel)
theorem wk_202 : (Cond.instanceMethod yX0_alteredMiddle : Cond) ∈ WL := wk_of (i := 223) (by decide +kernel) (by decide +kernel)
theorem wk_203 : (Cond.code yX0_alteredMiddle cX0_alteredMiddle 3 (some .int) : Cond) ∈ WL := wk_of (i := 224) (by decide +kernel) (by decide +kernel)
theorem wk_204 : (Cond.methodLink RX0 180 yX0_alteredLast : Cond) ∈ WL := wk_of (i := 225) (by decide +kernel) (by decide +kernel)
theorem wk_206 : (Cond.instanceMethod yX0_alteredLast : Cond) ∈ WL := wk_of (i := 227) (by decide +kernel) (by decide +kernel)
theorem wk_207 : (Cond.code yX0_alteredLast cX0_alteredLast 2 (some .int) : Cond) ∈ WL := wk_of (i := 228) (by decide +kernel) (by decide +kernel)
theorem wk_208 : (Cond.methodLink RX0 183 yX0_digits : Cond) ∈ WL := wk_of (i := 229) (by decide +kernel) (by decide +kernel)
theorem wk_209 : (Cond.static yX0_digits : Cond) ∈ WL := wk_of (i := 230) (by decide +kernel) (by decide +kernel)
theorem wk_210 : (Cond.code yX0_digits cX0_digits 1 (some .int) : Cond) ∈ WL := wk_of (i := 231) (by decide +kernel) (by decide +kernel)
theorem wk_211 : (Cond.methodLink RL 112 yL_asks : Cond) ∈ WL := wk_of (i := 232) (by decide +kernel) (by decide +kernel)
theorem wk_212 : (Cond.static yL_asks : Cond) ∈ WL := wk_of (i := 233) (by decide +kernel) (by decide +kernel)
theorem wk_213 : (Cond.codeWith yL_asks cL_asks 6 (some .int) [(0, 101, 102, 54), (0, 101, 107, 56), (0, 101, 112, 58)] : Cond) ∈ WL := wk_of (i := 234) (by decide +kernel) (by decide +kernel)
theorem wk_214 : (Cond.classLink RL 54 "java/lang/IllegalArgumentException" : Cond) ∈ WL := wk_of (i := 235) (by decide +kernel) (by decide +kernel)
theorem wk_215 : (Cond.classLink RL 56 "java/lang/IllegalStateException" : Cond) ∈ WL := wk_of (i := 236) (by decide +kernel) (by decide +kernel)
theorem wk_216 : (Cond.classLink RL 58 "java/util/NoSuchElementException" : Cond) ∈ WL := wk_of (i := 237) (by decide +kernel) (by decide +kernel)
theorem wk_217 : (Cond.methodLink RL 23 yL_writes : Cond) ∈ WL := wk_of (i := 238) (by decide +kernel) (by decide +kernel)
theorem wk_218 : (Cond.static yL_writes : Cond) ∈ WL := wk_of (i := 239) (by decide +kernel) (by decide +kernel)
theorem wk_219 : (Cond.code yL_writes cL_writes 5 (some .int) : Cond) ∈ WL := wk_of (i := 240) (by decide +kernel) (by decide +kernel)
theorem wk_220 : (Cond.methodLink RL 10 yX0_insert : Cond) ∈ WL := wk_of (i := 241) (by decide +kernel) (by decide +kernel)
theorem wk_221 : (Cond.instanceMethod yX0_insert : Cond) ∈ WL := wk_of (i := 242) (by decide +kernel) (by decide +kernel)
theorem wk_222 : (Cond.selects RX0 yX0_insert yX0_insert : Cond) ∈ WL := wk_of (i := 243) (by decide +kernel) (by decide +kernel)
theorem wk_223 : (Cond.code yX0_insert cX0_insert 4 none : Cond) ∈ WL := wk_of (i := 244) (by decide +kernel) (by decide +kernel)
theorem wk_225 : (Cond.methodLink RX0 55 yX0_canBeWritten : Cond) ∈ WL := wk_of (i := 246) (by decide +kernel) (by decide +kernel)
theorem wk_227 : (Cond.instanceMethod yX0_canBeWritten : Cond) ∈ WL := wk_of (i := 248) (by decide +kernel) (by decide +kernel)
theorem wk_228 : (Cond.code yX0_canBeWritten cX0_canBeWritten 3 (some .boolean) : Cond) ∈ WL := wk_of (i := 249) (by decide +kernel) (by decide +kernel)
theorem wk_229 : (Cond.classLink RX0 59 "java/lang/IllegalArgumentException" : Cond) ∈ WL := wk_of (i := 250) (by decide +kernel) (by decide +kernel)
theorem wk_230 : (Cond.instantiable "java/lang/IllegalArgumentException" 6 : Cond) ∈ WL := wk_of (i := 251) (by decide +kernel) (by decide +kernel)
theorem wk_232 : (Cond.selects "java/lang/IllegalArgumentException" (⟨"java/lang/Throwable", "fillInStackTrace", "(I)Ljava/lang/Throwable;"⟩ : MethodName) (⟨"java/lang/Throwable", "fillInStackTrace", "(I)Ljava/lang/Throwable;"⟩ : MethodName) : Cond) ∈ WL := wk_of (i := 253) (by decide +kernel) (by decide +kernel)
theorem wk_239 : (Cond.methodLink RX0 63 (⟨"java/lang/IllegalArgumentException", "<init>", "(Ljava/lang/String;)V"⟩ : MethodName) : Cond) ∈ WL := wk_of (i := 260) (by decide +kernel) (by decide +kernel)
theorem wk_240 : (Cond.instanceMethod (⟨"java/lang/IllegalArgumentException", "<init>", "(Ljava/lang/String;)V"⟩ : MethodName) : Cond) ∈ WL := wk_of (i := 261) (by decide +kernel) (by decide +kernel)
theorem wk_241 : (Cond.code (⟨"java/lang/IllegalArgumentException", "<init>", "(Ljava/lang/String;)V"⟩ : MethodName) prog_6_method_2_code 2 none : Cond) ∈ WL := wk_of (i := 262) (by decide +kernel) (by decide +kernel)
theorem wk_242 : (Cond.methodLink "java/lang/IllegalArgumentException" 7 (⟨"java/lang/RuntimeException", "<init>", "(Ljava/lang/String;)V"⟩ : MethodName) : Cond) ∈ WL := wk_of (i := 263) (by decide +kernel) (by decide +kernel)
theorem wk_245 : (Cond.methodLink RX0 64 yX0_isSeen : Cond) ∈ WL := wk_of (i := 266) (by decide +kernel) (by decide +kernel)
theorem wk_247 : (Cond.instanceMethod yX0_isSeen : Cond) ∈ WL := wk_of (i := 268) (by decide +kernel) (by decide +kernel)
theorem wk_248 : (Cond.code yX0_isSeen cX0_isSeen 2 (some .boolean) : Cond) ∈ WL := wk_of (i := 269) (by decide +kernel) (by decide +kernel)
theorem wk_249 : (Cond.classLink RX0 67 "java/lang/IllegalStateException" : Cond) ∈ WL := wk_of (i := 270) (by decide +kernel) (by decide +kernel)
theorem wk_250 : (Cond.instantiable "java/lang/IllegalStateException" 6 : Cond) ∈ WL := wk_of (i := 271) (by decide +kernel) (by decide +kernel)
theorem wk_252 : (Cond.selects "java/lang/IllegalStateException" (⟨"java/lang/Throwable", "fillInStackTrace", "(I)Ljava/lang/Throwable;"⟩ : MethodName) (⟨"java/lang/Throwable", "fillInStackTrace", "(I)Ljava/lang/Throwable;"⟩ : MethodName) : Cond) ∈ WL := wk_of (i := 273) (by decide +kernel) (by decide +kernel)
theorem wk_259 : (Cond.methodLink RX0 71 (⟨"java/lang/IllegalStateException", "<init>", "(Ljava/lang/String;)V"⟩ : MethodName) : Cond) ∈ WL := wk_of (i := 280) (by decide +kernel) (by decide +kernel)
theorem wk_260 : (Cond.instanceMethod (⟨"java/lang/IllegalStateException", "<init>", "(Ljava/lang/String;)V"⟩ : MethodName) : Cond) ∈ WL := wk_of (i := 281) (by decide +kernel) (by decide +kernel)
theorem wk_261 : (Cond.code (⟨"java/lang/IllegalStateException", "<init>", "(Ljava/lang/String;)V"⟩ : MethodName) prog_7_method_2_code 2 none : Cond) ∈ WL := wk_of (i := 282) (by decide +kernel) (by decide +kernel)
theorem wk_262 : (Cond.methodLink "java/lang/IllegalStateException" 7 (⟨"java/lang/RuntimeException", "<init>", "(Ljava/lang/String;)V"⟩ : MethodName) : Cond) ∈ WL := wk_of (i := 283) (by decide +kernel) (by decide +kernel)
theorem wk_265 : (Cond.methodLink RX0 72 yX0_putRow : Cond) ∈ WL := wk_of (i := 286) (by decide +kernel) (by decide +kernel)
theorem wk_267 : (Cond.instanceMethod yX0_putRow : Cond) ∈ WL := wk_of (i := 288) (by decide +kernel) (by decide +kernel)
theorem wk_268 : (Cond.code yX0_putRow cX0_putRow 4 none : Cond) ∈ WL := wk_of (i := 289) (by decide +kernel) (by decide +kernel)
theorem wk_269 : (Cond.methodLink RX0 76 yX0_followWrite : Cond) ∈ WL := wk_of (i := 290) (by decide +kernel) (by decide +kernel)
theorem wk_271 : (Cond.instanceMethod yX0_followWrite : Cond) ∈ WL := wk_of (i := 292) (by decide +kernel) (by decide +kernel)
theorem wk_272 : (Cond.code yX0_followWrite cX0_followWrite 2 none : Cond) ∈ WL := wk_of (i := 293) (by decide +kernel) (by decide +kernel)
theorem wk_273 : (Cond.methodLink RX0 190 yX0_noteKey : Cond) ∈ WL := wk_of (i := 294) (by decide +kernel) (by decide +kernel)
theorem wk_275 : (Cond.instanceMethod yX0_noteKey : Cond) ∈ WL := wk_of (i := 296) (by decide +kernel) (by decide +kernel)
theorem wk_276 : (Cond.code yX0_noteKey cX0_noteKey 2 none : Cond) ∈ WL := wk_of (i := 297) (by decide +kernel) (by decide +kernel)
theorem wk_277 : (Cond.methodLink RX0 193 yX0_bring : Cond) ∈ WL := wk_of (i := 298) (by decide +kernel) (by decide +kernel)
theorem wk_279 : (Cond.instanceMethod yX0_bring : Cond) ∈ WL := wk_of (i := 300) (by decide +kernel) (by decide +kernel)
theorem wk_280 : (Cond.code yX0_bring cX0_bring 3 none : Cond) ∈ WL := wk_of (i := 301) (by decide +kernel) (by decide +kernel)
theorem wk_281 : (Cond.methodLink RL 16 yX0_update : Cond) ∈ WL := wk_of (i := 302) (by decide +kernel) (by decide +kernel)
theorem wk_282 : (Cond.instanceMethod yX0_update : Cond) ∈ WL := wk_of (i := 303) (by decide +kernel) (by decide +kernel)
theorem wk_283 : (Cond.selects RX0 yX0_update yX0_update : Cond) ∈ WL := wk_of (i := 304) (by decide +kernel) (by decide +kernel)
theorem wk_284 : (Cond.code yX0_update cX0_update 4 none : Cond) ∈ WL := wk_of (i := 305) (by decide +kernel) (by decide +kernel)
theorem wk_285 : (Cond.classLink RX0 80 "java/util/NoSuchElementException" : Cond) ∈ WL := wk_of (i := 306) (by decide +kernel) (by decide +kernel)
theorem wk_286 : (Cond.instantiable "java/util/NoSuchElementException" 6 : Cond) ∈ WL := wk_of (i := 307) (by decide +kernel) (by decide +kernel)
theorem wk_288 : (Cond.selects "java/util/NoSuchElementException" (⟨"java/lang/Throwable", "fillInStackTrace", "(I)Ljava/lang/Throwable;"⟩ : MethodName) (⟨"java/lang/Throwable", "fillInStackTrace", "(I)Ljava/lang/Throwable;"⟩ : MethodName) : Cond) ∈ WL := wk_of (i := 309) (by decide +kernel) (by decide +kernel)
theorem wk_295 : (Cond.methodLink RX0 84 (⟨"java/util/NoSuchElementException", "<init>", "(Ljava/lang/String;)V"⟩ : MethodName) : Cond) ∈ WL := wk_of (i := 316) (by decide +kernel) (by decide +kernel)
theorem wk_296 : (Cond.instanceMethod (⟨"java/util/NoSuchElementException", "<init>", "(Ljava/lang/String;)V"⟩ : MethodName) : Cond) ∈ WL := wk_of (i := 317) (by decide +kernel) (by decide +kernel)
theorem wk_297 : (Cond.code (⟨"java/util/NoSuchElementException", "<init>", "(Ljava/lang/String;)V"⟩ : MethodName) prog_15_method_4_code 2 none : Cond) ∈ WL := wk_of (i := 318) (by decide +kernel) (by decide +kernel)
theorem wk_298 : (Cond.methodLink "java/util/NoSuchElementException" 13 (⟨"java/lang/RuntimeException", "<init>", "(Ljava/lang/String;)V"⟩ : MethodName) : Cond) ∈ WL := wk_of (i := 319) (by decide +kernel) (by decide +kernel)
theorem wk_301 : (Cond.methodLink RL 19 yX0_rekey : Cond) ∈ WL := wk_of (i := 322) (by decide +kernel) (by decide +kernel)
theorem wk_302 : (Cond.instanceMethod yX0_rekey : Cond) ∈ WL := wk_of (i := 323) (by decide +kernel) (by decide +kernel)
theorem wk_303 : (Cond.selects RX0 yX0_rekey yX0_rekey : Cond) ∈ WL := wk_of (i := 324) (by decide +kernel) (by decide +kernel)
theorem wk_304 : (Cond.code yX0_rekey cX0_rekey 3 none : Cond) ∈ WL := wk_of (i := 325) (by decide +kernel) (by decide +kernel)
theorem wk_308 : (Cond.methodLink RX0 89 yX0_removeRow : Cond) ∈ WL := wk_of (i := 329) (by decide +kernel) (by decide +kernel)
theorem wk_310 : (Cond.instanceMethod yX0_removeRow : Cond) ∈ WL := wk_of (i := 331) (by decide +kernel) (by decide +kernel)
theorem wk_311 : (Cond.code yX0_removeRow cX0_removeRow 2 none : Cond) ∈ WL := wk_of (i := 332) (by decide +kernel) (by decide +kernel)
theorem wk_312 : (Cond.methodLink RX0 98 yJ9_min_7cf53 : Cond) ∈ WL := wk_of (i := 333) (by decide +kernel) (by decide +kernel)
theorem wk_313 : (Cond.static yJ9_min_7cf53 : Cond) ∈ WL := wk_of (i := 334) (by decide +kernel) (by decide +kernel)
theorem wk_314 : (Cond.code yJ9_min_7cf53 cJ9_min_7cf53 2 (some .int) : Cond) ∈ WL := wk_of (i := 335) (by decide +kernel) (by decide +kernel)
theorem wk_315 : (Cond.methodLink RX0 104 yJ9_max_7cf53 : Cond) ∈ WL := wk_of (i := 336) (by decide +kernel) (by decide +kernel)
theorem wk_316 : (Cond.static yJ9_max_7cf53 : Cond) ∈ WL := wk_of (i := 337) (by decide +kernel) (by decide +kernel)
theorem wk_317 : (Cond.code yJ9_max_7cf53 cJ9_max_7cf53 2 (some .int) : Cond) ∈ WL := wk_of (i := 338) (by decide +kernel) (by decide +kernel)
theorem wk_318 : (Cond.methodLink RL 29 yX0_delete : Cond) ∈ WL := wk_of (i := 339) (by decide +kernel) (by decide +kernel)
theorem wk_319 : (Cond.instanceMethod yX0_delete : Cond) ∈ WL := wk_of (i := 340) (by decide +kernel) (by decide +kernel)
theorem wk_320 : (Cond.selects RX0 yX0_delete yX0_delete : Cond) ∈ WL := wk_of (i := 341) (by decide +kernel) (by decide +kernel)
theorem wk_321 : (Cond.code yX0_delete cX0_delete 3 (some .int) : Cond) ∈ WL := wk_of (i := 342) (by decide +kernel) (by decide +kernel)
theorem wk_322 : (Cond.methodLink RX0 85 yX0_rowAsNumber : Cond) ∈ WL := wk_of (i := 343) (by decide +kernel) (by decide +kernel)
theorem wk_324 : (Cond.instanceMethod yX0_rowAsNumber : Cond) ∈ WL := wk_of (i := 345) (by decide +kernel) (by decide +kernel)
theorem wk_325 : (Cond.code yX0_rowAsNumber cX0_rowAsNumber 2 (some .int) : Cond) ∈ WL := wk_of (i := 346) (by decide +kernel) (by decide +kernel)
theorem wk_326 : (Cond.methodLink RL 33 yX0_tick : Cond) ∈ WL := wk_of (i := 347) (by decide +kernel) (by decide +kernel)
theorem wk_327 : (Cond.instanceMethod yX0_tick : Cond) ∈ WL := wk_of (i := 348) (by decide +kernel) (by decide +kernel)
theorem wk_328 : (Cond.selects RX0 yX0_tick yX0_tick : Cond) ∈ WL := wk_of (i := 349) (by decide +kernel) (by decide +kernel)
theorem wk_329 : (Cond.code yX0_tick cX0_tick 2 (some .int) : Cond) ∈ WL := wk_of (i := 350) (by decide +kernel) (by decide +kernel)
theorem wk_332 : (Cond.methodLink RX0 130 yX0_copyChunk : Cond) ∈ WL := wk_of (i := 353) (by decide +kernel) (by decide +kernel)
theorem wk_334 : (Cond.instanceMethod yX0_copyChunk : Cond) ∈ WL := wk_of (i := 355) (by decide +kernel) (by decide +kernel)
theorem wk_335 : (Cond.code yX0_copyChunk cX0_copyChunk 4 (some .int) : Cond) ∈ WL := wk_of (i := 356) (by decide +kernel) (by decide +kernel)
theorem wk_336 : (Cond.methodLink RX0 137 yX0_playNotes : Cond) ∈ WL := wk_of (i := 357) (by decide +kernel) (by decide +kernel)
theorem wk_338 : (Cond.instanceMethod yX0_playNotes : Cond) ∈ WL := wk_of (i := 359) (by decide +kernel) (by decide +kernel)
theorem wk_339 : (Cond.code yX0_playNotes cX0_playNotes 3 (some .int) : Cond) ∈ WL := wk_of (i := 360) (by decide +kernel) (by decide +kernel)
theorem wk_340 : (Cond.methodLink RX0 196 (⟨"java/lang/System", "arraycopy", "(Ljava/lang/Object;ILjava/lang/Object;II)V"⟩ : MethodName) : Cond) ∈ WL := wk_of (i := 361) (by decide +kernel) (by decide +kernel)
theorem wk_341 : (Cond.static (⟨"java/lang/System", "arraycopy", "(Ljava/lang/Object;ILjava/lang/Object;II)V"⟩ : MethodName) : Cond) ∈ WL := wk_of (i := 362) (by decide +kernel) (by decide +kernel)
theorem wk_342 : (Cond.native (⟨"java/lang/System", "arraycopy", "(Ljava/lang/Object;ILjava/lang/Object;II)V"⟩ : MethodName) : Cond) ∈ WL := wk_of (i := 363) (by decide +kernel) (by decide +kernel)
theorem wk_343 : (Cond.methodLink RL 36 yX0_cutOver : Cond) ∈ WL := wk_of (i := 364) (by decide +kernel) (by decide +kernel)
theorem wk_344 : (Cond.instanceMethod yX0_cutOver : Cond) ∈ WL := wk_of (i := 365) (by decide +kernel) (by decide +kernel)
theorem wk_345 : (Cond.selects RX0 yX0_cutOver yX0_cutOver : Cond) ∈ WL := wk_of (i := 366) (by decide +kernel) (by decide +kernel)
theorem wk_346 : (Cond.code yX0_cutOver cX0_cutOver 3 (some .int) : Cond) ∈ WL := wk_of (i := 367) (by decide +kernel) (by decide +kernel)
theorem wk_349 : (Cond.methodLink RL 39 yX0_finish : Cond) ∈ WL := wk_of (i := 370) (by decide +kernel) (by decide +kernel)
theorem wk_350 : (Cond.instanceMethod yX0_finish : Cond) ∈ WL := wk_of (i := 371) (by decide +kernel) (by decide +kernel)
theorem wk_351 : (Cond.selects RX0 yX0_finish yX0_finish : Cond) ∈ WL := wk_of (i := 372) (by decide +kernel) (by decide +kernel)
theorem wk_352 : (Cond.code yX0_finish cX0_finish 2 (some .int) : Cond) ∈ WL := wk_of (i := 373) (by decide +kernel) (by decide +kernel)
theorem wk_354 : (Cond.methodLink RX0 146 yX0_removeRowsWithoutShadow : Cond) ∈ WL := wk_of (i := 375) (by decide +kernel) (by decide +kernel)
theorem wk_356 : (Cond.instanceMethod yX0_removeRowsWithoutShadow : Cond) ∈ WL := wk_of (i := 377) (by decide +kernel) (by decide +kernel)
theorem wk_357 : (Cond.code yX0_removeRowsWithoutShadow cX0_removeRowsWithoutShadow 3 (some .int) : Cond) ∈ WL := wk_of (i := 378) (by decide +kernel) (by decide +kernel)
theorem wk_358 : (Cond.methodLink RX0 149 yX0_endChange : Cond) ∈ WL := wk_of (i := 379) (by decide +kernel) (by decide +kernel)
theorem wk_360 : (Cond.instanceMethod yX0_endChange : Cond) ∈ WL := wk_of (i := 381) (by decide +kernel) (by decide +kernel)
theorem wk_361 : (Cond.code yX0_endChange cX0_endChange 5 none : Cond) ∈ WL := wk_of (i := 382) (by decide +kernel) (by decide +kernel)
theorem wk_362 : (Cond.methodLink RL 43 yX0_giveUp : Cond) ∈ WL := wk_of (i := 383) (by decide +kernel) (by decide +kernel)
theorem wk_363 : (Cond.instanceMethod yX0_giveUp : Cond) ∈ WL := wk_of (i := 384) (by decide +kernel) (by decide +kernel)
theorem wk_364 : (Cond.selects RX0 yX0_giveUp yX0_giveUp : Cond) ∈ WL := wk_of (i := 385) (by decide +kernel) (by decide +kernel)
theorem wk_365 : (Cond.code yX0_giveUp cX0_giveUp 2 (some .int) : Cond) ∈ WL := wk_of (i := 386) (by decide +kernel) (by decide +kernel)
theorem wk_366 : (Cond.methodLink RX0 152 yX0_shadowRows : Cond) ∈ WL := wk_of (i := 387) (by decide +kernel) (by decide +kernel)
theorem wk_367 : (Cond.methodLink RL 46 yL_undoes : Cond) ∈ WL := wk_of (i := 388) (by decide +kernel) (by decide +kernel)
theorem wk_368 : (Cond.static yL_undoes : Cond) ∈ WL := wk_of (i := 389) (by decide +kernel) (by decide +kernel)
theorem wk_369 : (Cond.code yL_undoes cL_undoes 1 (some .int) : Cond) ∈ WL := wk_of (i := 390) (by decide +kernel) (by decide +kernel)
theorem wk_370 : (Cond.methodLink RL 60 yX0_undo : Cond) ∈ WL := wk_of (i := 391) (by decide +kernel) (by decide +kernel)
theorem wk_371 : (Cond.instanceMethod yX0_undo : Cond) ∈ WL := wk_of (i := 392) (by decide +kernel) (by decide +kernel)
theorem wk_372 : (Cond.selects RX0 yX0_undo yX0_undo : Cond) ∈ WL := wk_of (i := 393) (by decide +kernel) (by decide +kernel)
theorem wk_373 : (Cond.code yX0_undo cX0_undo 1 none : Cond) ∈ WL := wk_of (i := 394) (by decide +kernel) (by decide +kernel)
theorem wk_374 : (Cond.methodLink RL 50 yL_starts : Cond) ∈ WL := wk_of (i := 395) (by decide +kernel) (by decide +kernel)
theorem wk_375 : (Cond.static yL_starts : Cond) ∈ WL := wk_of (i := 396) (by decide +kernel) (by decide +kernel)
theorem wk_376 : (Cond.code yL_starts cL_starts 3 (some .int) : Cond) ∈ WL := wk_of (i := 397) (by decide +kernel) (by decide +kernel)
theorem wk_377 : (Cond.methodLink RL 63 yX0_start : Cond) ∈ WL := wk_of (i := 398) (by decide +kernel) (by decide +kernel)
theorem wk_378 : (Cond.instanceMethod yX0_start : Cond) ∈ WL := wk_of (i := 399) (by decide +kernel) (by decide +kernel)
theorem wk_379 : (Cond.selects RX0 yX0_start yX0_start : Cond) ∈ WL := wk_of (i := 400) (by decide +kernel) (by decide +kernel)
theorem wk_380 : (Cond.code yX0_start cX0_start 3 none : Cond) ∈ WL := wk_of (i := 401) (by decide +kernel) (by decide +kernel)
theorem wk_383 : (Cond.methodLink RL 119 yL_ticks : Cond) ∈ WL := wk_of (i := 404) (by decide +kernel) (by decide +kernel)
theorem wk_384 : (Cond.static yL_ticks : Cond) ∈ WL := wk_of (i := 405) (by decide +kernel) (by decide +kernel)
theorem wk_385 : (Cond.code yL_ticks cL_ticks 9 (some .boolean) : Cond) ∈ WL := wk_of (i := 406) (by decide +kernel) (by decide +kernel)
theorem wk_386 : (Cond.methodLink RL 87 yL_isEven : Cond) ∈ WL := wk_of (i := 407) (by decide +kernel) (by decide +kernel)
theorem wk_387 : (Cond.static yL_isEven : Cond) ∈ WL := wk_of (i := 408) (by decide +kernel) (by decide +kernel)
theorem wk_388 : (Cond.code yL_isEven cL_isEven 6 (some .boolean) : Cond) ∈ WL := wk_of (i := 409) (by decide +kernel) (by decide +kernel)
theorem wk_389 : (Cond.methodLink RL 93 yX0_isRefused : Cond) ∈ WL := wk_of (i := 410) (by decide +kernel) (by decide +kernel)
theorem wk_390 : (Cond.instanceMethod yX0_isRefused : Cond) ∈ WL := wk_of (i := 411) (by decide +kernel) (by decide +kernel)
theorem wk_391 : (Cond.selects RX0 yX0_isRefused yX0_isRefused : Cond) ∈ WL := wk_of (i := 412) (by decide +kernel) (by decide +kernel)
theorem wk_392 : (Cond.code yX0_isRefused cX0_isRefused 2 (some .boolean) : Cond) ∈ WL := wk_of (i := 413) (by decide +kernel) (by decide +kernel)
theorem wk_393 : (Cond.methodLink RL 123 yX0_setPace : Cond) ∈ WL := wk_of (i := 414) (by decide +kernel) (by decide +kernel)
theorem wk_394 : (Cond.instanceMethod yX0_setPace : Cond) ∈ WL := wk_of (i := 415) (by decide +kernel) (by decide +kernel)
theorem wk_395 : (Cond.selects RX0 yX0_setPace yX0_setPace : Cond) ∈ WL := wk_of (i := 416) (by decide +kernel) (by decide +kernel)
theorem wk_396 : (Cond.code yX0_setPace cX0_setPace 3 none : Cond) ∈ WL := wk_of (i := 417) (by decide +kernel) (by decide +kernel)
theorem wk_398 : (Cond.methodLink RL 126 yL_changes : Cond) ∈ WL := wk_of (i := 419) (by decide +kernel) (by decide +kernel)
theorem wk_399 : (Cond.static yL_changes : Cond) ∈ WL := wk_of (i := 420) (by decide +kernel) (by decide +kernel)
set_option maxRecDepth 100000 in
theorem wk_400 : (Cond.code yL_changes cL_changes 12 (some .boolean) : Cond) ∈ WL := wk_of (i := 421) rfl (by decide +kernel)
theorem wk_401 : (Cond.methodLink RL 90 yX0_row : Cond) ∈ WL := wk_of (i := 422) (by decide +kernel) (by decide +kernel)
theorem wk_402 : (Cond.instanceMethod yX0_row : Cond) ∈ WL := wk_of (i := 423) (by decide +kernel) (by decide +kernel)
theorem wk_403 : (Cond.selects RX0 yX0_row yX0_row : Cond) ∈ WL := wk_of (i := 424) (by decide +kernel) (by decide +kernel)
theorem wk_404 : (Cond.code yX0_row cX0_row 2 (some .int) : Cond) ∈ WL := wk_of (i := 425) (by decide +kernel) (by decide +kernel)
theorem wk_405 : (Cond.methodLink RL 103 yX0_rows : Cond) ∈ WL := wk_of (i := 426) (by decide +kernel) (by decide +kernel)
theorem wk_406 : (Cond.instanceMethod yX0_rows : Cond) ∈ WL := wk_of (i := 427) (by decide +kernel) (by decide +kernel)
theorem wk_407 : (Cond.selects RX0 yX0_rows yX0_rows : Cond) ∈ WL := wk_of (i := 428) (by decide +kernel) (by decide +kernel)
theorem wk_408 : (Cond.code yX0_rows cX0_rows 3 (some .int) : Cond) ∈ WL := wk_of (i := 429) (by decide +kernel) (by decide +kernel)
theorem wk_409 : (Cond.methodLink RL 138 yL_isTold : Cond) ∈ WL := wk_of (i := 430) (by decide +kernel) (by decide +kernel)
theorem wk_410 : (Cond.static yL_isTold : Cond) ∈ WL := wk_of (i := 431) (by decide +kernel) (by decide +kernel)
set_option maxRecDepth 100000 in
theorem wk_411 : (Cond.code yL_isTold cL_isTold 13 (some .boolean) : Cond) ∈ WL := wk_of (i := 432) rfl (by decide +kernel)
theorem wk_412 : (Cond.methodLink RL 74 yX0_phase : Cond) ∈ WL := wk_of (i := 433) (by decide +kernel) (by decide +kernel)
theorem wk_413 : (Cond.instanceMethod yX0_phase : Cond) ∈ WL := wk_of (i := 434) (by decide +kernel) (by decide +kernel)
theorem wk_414 : (Cond.selects RX0 yX0_phase yX0_phase : Cond) ∈ WL := wk_of (i := 435) (by decide +kernel) (by decide +kernel)
theorem wk_415 : (Cond.code yX0_phase cX0_phase 1 (some .int) : Cond) ∈ WL := wk_of (i := 436) (by decide +kernel) (by decide +kernel)
theorem wk_416 : (Cond.methodLink RL 77 yX0_mark : Cond) ∈ WL := wk_of (i := 437) (by decide +kernel) (by decide +kernel)
theorem wk_417 : (Cond.instanceMethod yX0_mark : Cond) ∈ WL := wk_of (i := 438) (by decide +kernel) (by decide +kernel)
theorem wk_418 : (Cond.selects RX0 yX0_mark yX0_mark : Cond) ∈ WL := wk_of (i := 439) (by decide +kernel) (by decide +kernel)
theorem wk_419 : (Cond.code yX0_mark cX0_mark 1 (some .int) : Cond) ∈ WL := wk_of (i := 440) (by decide +kernel) (by decide +kernel)
theorem wk_420 : (Cond.methodLink RL 80 yX0_notes : Cond) ∈ WL := wk_of (i := 441) (by decide +kernel) (by decide +kernel)
theorem wk_421 : (Cond.instanceMethod yX0_notes : Cond) ∈ WL := wk_of (i := 442) (by decide +kernel) (by decide +kernel)
theorem wk_422 : (Cond.selects RX0 yX0_notes yX0_notes : Cond) ∈ WL := wk_of (i := 443) (by decide +kernel) (by decide +kernel)
theorem wk_423 : (Cond.code yX0_notes cX0_notes 1 (some .int) : Cond) ∈ WL := wk_of (i := 444) (by decide +kernel) (by decide +kernel)
theorem wk_424 : (Cond.methodLink RL 97 yX0_sum : Cond) ∈ WL := wk_of (i := 445) (by decide +kernel) (by decide +kernel)
theorem wk_425 : (Cond.instanceMethod yX0_sum : Cond) ∈ WL := wk_of (i := 446) (by decide +kernel) (by decide +kernel)
theorem wk_426 : (Cond.selects RX0 yX0_sum yX0_sum : Cond) ∈ WL := wk_of (i := 447) (by decide +kernel) (by decide +kernel)
theorem wk_427 : (Cond.code yX0_sum cX0_sum 4 (some .int) : Cond) ∈ WL := wk_of (i := 448) (by decide +kernel) (by decide +kernel)
theorem wk_429 : (Cond.methodLink RL 100 yX0_sumAtOnce : Cond) ∈ WL := wk_of (i := 450) (by decide +kernel) (by decide +kernel)
theorem wk_430 : (Cond.instanceMethod yX0_sumAtOnce : Cond) ∈ WL := wk_of (i := 451) (by decide +kernel) (by decide +kernel)
theorem wk_431 : (Cond.selects RX0 yX0_sumAtOnce yX0_sumAtOnce : Cond) ∈ WL := wk_of (i := 452) (by decide +kernel) (by decide +kernel)
theorem wk_432 : (Cond.code yX0_sumAtOnce cX0_sumAtOnce 5 (some .int) : Cond) ∈ WL := wk_of (i := 453) (by decide +kernel) (by decide +kernel)
theorem wq_0 : (Cond.selects "java/lang/Throwable" (⟨"java/lang/Throwable", "fillInStackTrace", "(I)Ljava/lang/Throwable;"⟩ : MethodName) (⟨"java/lang/Throwable", "fillInStackTrace", "(I)Ljava/lang/Throwable;"⟩ : MethodName) : Cond) ∈ WL := wk_of (i := 0) (by decide +kernel) (by decide +kernel)
theorem wq_1 : (Cond.selects RX0 yX0_isInShadow yX0_isInShadow : Cond) ∈ WL := wk_of (i := 1) (by decide +kernel) (by decide +kernel)
theorem wq_2 : (Cond.selects RX0 yX0_isBehind yX0_isBehind : Cond) ∈ WL := wk_of (i := 2) (by decide +kernel) (by decide +kernel)
theorem wq_3 : (Cond.selects RX0 yX0_broughtColumn yX0_broughtColumn : Cond) ∈ WL := wk_of (i := 3) (by decide +kernel) (by decide +kernel)
theorem wq_4 : (Cond.selects RX0 yX0_isInOld yX0_isInOld : Cond) ∈ WL := wk_of (i := 4) (by decide +kernel) (by decide +kernel)
theorem wq_5 : (Cond.selects RX0 yX0_fits yX0_fits : Cond) ∈ WL := wk_of (i := 5) (by decide +kernel) (by decide +kernel)
theorem wq_6 : (Cond.selects RX0 yX0_alteredColumn yX0_alteredColumn : Cond) ∈ WL := wk_of (i := 6) (by decide +kernel) (by decide +kernel)
theorem wq_7 : (Cond.selects RX0 yX0_alteredMiddle yX0_alteredMiddle : Cond) ∈ WL := wk_of (i := 7) (by decide +kernel) (by decide +kernel)
theorem wq_8 : (Cond.selects RX0 yX0_alteredLast yX0_alteredLast : Cond) ∈ WL := wk_of (i := 8) (by decide +kernel) (by decide +kernel)
theorem wq_9 : (Cond.selects RX0 yX0_canBeWritten yX0_canBeWritten : Cond) ∈ WL := wk_of (i := 9) (by decide +kernel) (by decide +kernel)
theorem wq_10 : (Cond.selects RX0 yX0_isSeen yX0_isSeen : Cond) ∈ WL := wk_of (i := 10) (by decide +kernel) (by decide +kernel)
theorem wq_11 : (Cond.selects RX0 yX0_putRow yX0_putRow : Cond) ∈ WL := wk_of (i := 11) (by decide +kernel) (by decide +kernel)
theorem wq_12 : (Cond.selects RX0 yX0_followWrite yX0_followWrite : Cond) ∈ WL := wk_of (i := 12) (by decide +kernel) (by decide +kernel)
theorem wq_13 : (Cond.selects RX0 yX0_noteKey yX0_noteKey : Cond) ∈ WL := wk_of (i := 13) (by decide +kernel) (by decide +kernel)
theorem wq_14 : (Cond.selects RX0 yX0_bring yX0_bring : Cond) ∈ WL := wk_of (i := 14) (by decide +kernel) (by decide +kernel)
theorem wq_15 : (Cond.selects RX0 yX0_removeRow yX0_removeRow : Cond) ∈ WL := wk_of (i := 15) (by decide +kernel) (by decide +kernel)
theorem wq_16 : (Cond.selects RX0 yX0_rowAsNumber yX0_rowAsNumber : Cond) ∈ WL := wk_of (i := 16) (by decide +kernel) (by decide +kernel)
theorem wq_17 : (Cond.selects RX0 yX0_copyChunk yX0_copyChunk : Cond) ∈ WL := wk_of (i := 17) (by decide +kernel) (by decide +kernel)
theorem wq_18 : (Cond.selects RX0 yX0_playNotes yX0_playNotes : Cond) ∈ WL := wk_of (i := 18) (by decide +kernel) (by decide +kernel)
theorem wq_19 : (Cond.selects RX0 yX0_removeRowsWithoutShadow yX0_removeRowsWithoutShadow : Cond) ∈ WL := wk_of (i := 19) (by decide +kernel) (by decide +kernel)
theorem wq_20 : (Cond.selects RX0 yX0_endChange yX0_endChange : Cond) ∈ WL := wk_of (i := 20) (by decide +kernel) (by decide +kernel)
end
section
theorem dX0_init_0 : decode cX0_init 0 = .ok (.aload_n 0, 1) := by decide +kernel
theorem dX0_init_1 : decode cX0_init 1 = .ok (.invokespecial 1, 3) := by decide +kernel
theorem dX0_init_4 : decode cX0_init 4 = .ok (.aload_n 0, 1) := by decide +kernel
theorem dX0_init_5 : decode cX0_init 5 = .ok (.bipush 40, 2) := by decide +kernel
theorem dX0_init_7 : decode cX0_init 7 = .ok (.newarray .int, 2) := by decide +kernel
theorem dX0_init_9 : decode cX0_init 9 = .ok (.putfield 9, 3) := by decide +kernel
theorem dX0_init_12 : decode cX0_init 12 = .ok (.aload_n 0, 1) := by decide +kernel
theorem dX0_init_13 : decode cX0_init 13 = .ok (.bipush 40, 2) := by decide +kernel
theorem dX0_init_15 : decode cX0_init 15 = .ok (.newarray .int, 2) := by decide +kernel
theorem dX0_init_17 : decode cX0_init 17 = .ok (.putfield 13, 3) := by decide +kernel
theorem dX0_init_20 : decode cX0_init 20 = .ok (.aload_n 0, 1) := by decide +kernel
theorem dX0_init_21 : decode cX0_init 21 = .ok (.iconst 3, 1) := by decide +kernel
theorem dX0_init_22 : decode cX0_init 22 = .ok (.bipush 40, 2) := by decide +kernel
theorem dX0_init_24 : decode cX0_init 24 = .ok (.multianewarray 16 2, 4) := by decide +kernel
theorem dX0_init_28 : decode cX0_init 28 = .ok (.putfield 18, 3) := by decide +kernel
theorem dX0_init_31 : decode cX0_init 31 = .ok (.aload_n 0, 1) := by decide +kernel
theorem dX0_init_32 : decode cX0_init 32 = .ok (.bipush 40, 2) := by decide +kernel
theorem dX0_init_34 : decode cX0_init 34 = .ok (.newarray .boolean, 2) := by decide +kernel
theorem dX0_init_36 : decode cX0_init 36 = .ok (.putfield 21, 3) := by decide +kernel
theorem dX0_init_39 : decode cX0_init 39 = .ok (.aload_n 0, 1) := by decide +kernel
theorem dX0_init_40 : decode cX0_init 40 = .ok (.sipush 1024, 3) := by decide +kernel
theorem dX0_init_43 : decode cX0_init 43 = .ok (.newarray .int, 2) := by decide +kernel
theorem dX0_init_45 : decode cX0_init 45 = .ok (.putfield 25, 3) := by decide +kernel
theorem dX0_init_48 : decode cX0_init 48 = .ok (.aload_n 0, 1) := by decide +kernel
theorem dX0_init_49 : decode cX0_init 49 = .ok (.getfield 9, 3) := by decide +kernel
theorem dX0_init_52 : decode cX0_init 52 = .ok (.iconst (-1), 1) := by decide +kernel
theorem dX0_init_53 : decode cX0_init 53 = .ok (.invokestatic 28, 3) := by decide +kernel
theorem dX0_init_56 : decode cX0_init 56 = .ok (.aload_n 0, 1) := by decide +kernel
theorem dX0_init_57 : decode cX0_init 57 = .ok (.getfield 18, 3) := by decide +kernel
theorem dX0_init_60 : decode cX0_init 60 = .ok (.astore_n 1, 1) := by decide +kernel
theorem dX0_init_61 : decode cX0_init 61 = .ok (.aload_n 1, 1) := by decide +kernel
theorem dX0_init_62 : decode cX0_init 62 = .ok (.arraylength, 1) := by decide +kernel
theorem dX0_init_63 : decode cX0_init 63 = .ok (.istore_n 2, 1) := by decide +kernel
theorem dX0_init_64 : decode cX0_init 64 = .ok (.iconst 0, 1) := by decide +kernel
theorem dX0_init_65 : decode cX0_init 65 = .ok (.istore_n 3, 1) := by decide +kernel
theorem dX0_init_66 : decode cX0_init 66 = .ok (.iload_n 3, 1) := by decide +kernel
theorem dX0_init_67 : decode cX0_init 67 = .ok (.iload_n 2, 1) := by decide +kernel
theorem dX0_init_68 : decode cX0_init 68 = .ok (.if_icmp .ge 20, 3) := by decide +kernel
theorem dX0_init_71 : decode cX0_init 71 = .ok (.aload_n 1, 1) := by decide +kernel
theorem dX0_init_72 : decode cX0_init 72 = .ok (.iload_n 3, 1) := by decide +kernel
theorem dX0_init_73 : decode cX0_init 73 = .ok (.aaload, 1) := by decide +kernel
theorem dX0_init_74 : decode cX0_init 74 = .ok (.astore 4, 2) := by decide +kernel
theorem dX0_init_76 : decode cX0_init 76 = .ok (.aload 4, 2) := by decide +kernel
theorem dX0_init_78 : decode cX0_init 78 = .ok (.iconst (-1), 1) := by decide +kernel
theorem dX0_init_79 : decode cX0_init 79 = .ok (.invokestatic 28, 3) := by decide +kernel
theorem dX0_init_82 : decode cX0_init 82 = .ok (.iinc 3 1, 3) := by decide +kernel
theorem dX0_init_85 : decode cX0_init 85 = .ok (.goto (-19), 3) := by decide +kernel
theorem dX0_init_88 : decode cX0_init 88 = .ok (.aload_n 0, 1) := by decide +kernel
theorem dX0_init_89 : decode cX0_init 89 = .ok (.iconst 0, 1) := by decide +kernel
theorem dX0_init_90 : decode cX0_init 90 = .ok (.putfield 34, 3) := by decide +kernel
theorem dX0_init_93 : decode cX0_init 93 = .ok (.aload_n 0, 1) := by decide +kernel
theorem dX0_init_94 : decode cX0_init 94 = .ok (.bipush 8, 2) := by decide +kernel
theorem dX0_init_96 : decode cX0_init 96 = .ok (.putfield 38, 3) := by decide +kernel
theorem dX0_init_99 : decode cX0_init 99 = .ok (.aload_n 0, 1) := by decide +kernel
theorem dX0_init_100 : decode cX0_init 100 = .ok (.bipush 10, 2) := by decide +kernel
theorem dX0_init_102 : decode cX0_init 102 = .ok (.putfield 41, 3) := by decide +kernel
theorem dX0_init_105 : decode cX0_init 105 = .ok (.return_, 1) := by decide +kernel
theorem dX0_insert_0 : decode cX0_insert 0 = .ok (.iload_n 1, 1) := by decide +kernel
theorem dX0_insert_1 : decode cX0_insert 1 = .ok (.invokestatic 44, 3) := by decide +kernel
theorem dX0_insert_4 : decode cX0_insert 4 = .ok (.ifCond .ne 13, 3) := by decide +kernel
theorem dX0_insert_7 : decode cX0_insert 7 = .ok (.new 48, 3) := by decide +kernel
theorem dX0_insert_10 : decode cX0_insert 10 = .ok (.dup, 1) := by decide +kernel
theorem dX0_insert_11 : decode cX0_insert 11 = .ok (.ldc 50, 2) := by decide +kernel
theorem dX0_insert_13 : decode cX0_insert 13 = .ok (.invokespecial 52, 3) := by decide +kernel
theorem dX0_insert_16 : decode cX0_insert 16 = .ok (.athrow, 1) := by decide +kernel
theorem dX0_insert_17 : decode cX0_insert 17 = .ok (.aload_n 0, 1) := by decide +kernel
theorem dX0_insert_18 : decode cX0_insert 18 = .ok (.iload_n 2, 1) := by decide +kernel
theorem dX0_insert_19 : decode cX0_insert 19 = .ok (.iload_n 3, 1) := by decide +kernel
theorem dX0_insert_20 : decode cX0_insert 20 = .ok (.invokevirtual 55, 3) := by decide +kernel
theorem dX0_insert_23 : decode cX0_insert 23 = .ok (.ifCond .ne 13, 3) := by decide +kernel
theorem dX0_insert_26 : decode cX0_insert 26 = .ok (.new 59, 3) := by decide +kernel
theorem dX0_insert_29 : decode cX0_insert 29 = .ok (.dup, 1) := by decide +kernel
theorem dX0_insert_30 : decode cX0_insert 30 = .ok (.ldc 61, 2) := by decide +kernel
theorem dX0_insert_32 : decode cX0_insert 32 = .ok (.invokespecial 63, 3) := by decide +kernel
theorem dX0_insert_35 : decode cX0_insert 35 = .ok (.athrow, 1) := by decide +kernel
theorem dX0_insert_36 : decode cX0_insert 36 = .ok (.aload_n 0, 1) := by decide +kernel
theorem dX0_insert_37 : decode cX0_insert 37 = .ok (.iload_n 1, 1) := by decide +kernel
theorem dX0_insert_38 : decode cX0_insert 38 = .ok (.invokevirtual 64, 3) := by decide +kernel
theorem dX0_insert_41 : decode cX0_insert 41 = .ok (.ifCond .eq 13, 3) := by decide +kernel
theorem dX0_insert_44 : decode cX0_insert 44 = .ok (.new 67, 3) := by decide +kernel
theorem dX0_insert_47 : decode cX0_insert 47 = .ok (.dup, 1) := by decide +kernel
theorem dX0_insert_48 : decode cX0_insert 48 = .ok (.ldc 69, 2) := by decide +kernel
theorem dX0_insert_50 : decode cX0_insert 50 = .ok (.invokespecial 71, 3) := by decide +kernel
theorem dX0_insert_53 : decode cX0_insert 53 = .ok (.athrow, 1) := by decide +kernel
theorem dX0_insert_54 : decode cX0_insert 54 = .ok (.aload_n 0, 1) := by decide +kernel
theorem dX0_insert_55 : decode cX0_insert 55 = .ok (.iload_n 1, 1) := by decide +kernel
theorem dX0_insert_56 : decode cX0_insert 56 = .ok (.iload_n 2, 1) := by decide +kernel
theorem dX0_insert_57 : decode cX0_insert 57 = .ok (.iload_n 3, 1) := by decide +kernel
theorem dX0_insert_58 : decode cX0_insert 58 = .ok (.invokevirtual 72, 3) := by decide +kernel
theorem dX0_insert_61 : decode cX0_insert 61 = .ok (.aload_n 0, 1) := by decide +kernel
theorem dX0_insert_62 : decode cX0_insert 62 = .ok (.iload_n 1, 1) := by decide +kernel
theorem dX0_insert_63 : decode cX0_insert 63 = .ok (.invokevirtual 76, 3) := by decide +kernel
theorem dX0_insert_66 : decode cX0_insert 66 = .ok (.return_, 1) := by decide +kernel
theorem dX0_update_0 : decode cX0_update 0 = .ok (.iload_n 1, 1) := by decide +kernel
theorem dX0_update_1 : decode cX0_update 1 = .ok (.invokestatic 44, 3) := by decide +kernel
theorem dX0_update_4 : decode cX0_update 4 = .ok (.ifCond .ne 13, 3) := by decide +kernel
theorem dX0_update_7 : decode cX0_update 7 = .ok (.new 48, 3) := by decide +kernel
theorem dX0_update_10 : decode cX0_update 10 = .ok (.dup, 1) := by decide +kernel
theorem dX0_update_11 : decode cX0_update 11 = .ok (.ldc 50, 2) := by decide +kernel
theorem dX0_update_13 : decode cX0_update 13 = .ok (.invokespecial 52, 3) := by decide +kernel
theorem dX0_update_16 : decode cX0_update 16 = .ok (.athrow, 1) := by decide +kernel
theorem dX0_update_17 : decode cX0_update 17 = .ok (.aload_n 0, 1) := by decide +kernel
theorem dX0_update_18 : decode cX0_update 18 = .ok (.iload_n 2, 1) := by decide +kernel
theorem dX0_update_19 : decode cX0_update 19 = .ok (.iload_n 3, 1) := by decide +kernel
theorem dX0_update_20 : decode cX0_update 20 = .ok (.invokevirtual 55, 3) := by decide +kernel
theorem dX0_update_23 : decode cX0_update 23 = .ok (.ifCond .ne 13, 3) := by decide +kernel
theorem dX0_update_26 : decode cX0_update 26 = .ok (.new 59, 3) := by decide +kernel
theorem dX0_update_29 : decode cX0_update 29 = .ok (.dup, 1) := by decide +kernel
theorem dX0_update_30 : decode cX0_update 30 = .ok (.ldc 61, 2) := by decide +kernel
theorem dX0_update_32 : decode cX0_update 32 = .ok (.invokespecial 63, 3) := by decide +kernel
theorem dX0_update_35 : decode cX0_update 35 = .ok (.athrow, 1) := by decide +kernel
theorem dX0_update_36 : decode cX0_update 36 = .ok (.aload_n 0, 1) := by decide +kernel
theorem dX0_update_37 : decode cX0_update 37 = .ok (.iload_n 1, 1) := by decide +kernel
theorem dX0_update_38 : decode cX0_update 38 = .ok (.invokevirtual 64, 3) := by decide +kernel
theorem dX0_update_41 : decode cX0_update 41 = .ok (.ifCond .ne 13, 3) := by decide +kernel
theorem dX0_update_44 : decode cX0_update 44 = .ok (.new 80, 3) := by decide +kernel
theorem dX0_update_47 : decode cX0_update 47 = .ok (.dup, 1) := by decide +kernel
theorem dX0_update_48 : decode cX0_update 48 = .ok (.ldc 82, 2) := by decide +kernel
theorem dX0_update_50 : decode cX0_update 50 = .ok (.invokespecial 84, 3) := by decide +kernel
theorem dX0_update_53 : decode cX0_update 53 = .ok (.athrow, 1) := by decide +kernel
theorem dX0_update_54 : decode cX0_update 54 = .ok (.aload_n 0, 1) := by decide +kernel
theorem dX0_update_55 : decode cX0_update 55 = .ok (.iload_n 1, 1) := by decide +kernel
theorem dX0_update_56 : decode cX0_update 56 = .ok (.iload_n 2, 1) := by decide +kernel
theorem dX0_update_57 : decode cX0_update 57 = .ok (.iload_n 3, 1) := by decide +kernel
theorem dX0_update_58 : decode cX0_update 58 = .ok (.invokevirtual 72, 3) := by decide +kernel
theorem dX0_update_61 : decode cX0_update 61 = .ok (.aload_n 0, 1) := by decide +kernel
theorem dX0_update_62 : decode cX0_update 62 = .ok (.iload_n 1, 1) := by decide +kernel
theorem dX0_update_63 : decode cX0_update 63 = .ok (.invokevirtual 76, 3) := by decide +kernel
theorem dX0_update_66 : decode cX0_update 66 = .ok (.return_, 1) := by decide +kernel
theorem dX0_delete_0 : decode cX0_delete 0 = .ok (.iload_n 1, 1) := by decide +kernel
theorem dX0_delete_1 : decode cX0_delete 1 = .ok (.invokestatic 44, 3) := by decide +kernel
theorem dX0_delete_4 : decode cX0_delete 4 = .ok (.ifCond .ne 13, 3) := by decide +kernel
theorem dX0_delete_7 : decode cX0_delete 7 = .ok (.new 48, 3) := by decide +kernel
theorem dX0_delete_10 : decode cX0_delete 10 = .ok (.dup, 1) := by decide +kernel
theorem dX0_delete_11 : decode cX0_delete 11 = .ok (.ldc 50, 2) := by decide +kernel
theorem dX0_delete_13 : decode cX0_delete 13 = .ok (.invokespecial 52, 3) := by decide +kernel
theorem dX0_delete_16 : decode cX0_delete 16 = .ok (.athrow, 1) := by decide +kernel
theorem dX0_delete_17 : decode cX0_delete 17 = .ok (.aload_n 0, 1) := by decide +kernel
theorem dX0_delete_18 : decode cX0_delete 18 = .ok (.iload_n 1, 1) := by decide +kernel
theorem dX0_delete_19 : decode cX0_delete 19 = .ok (.invokevirtual 64, 3) := by decide +kernel
theorem dX0_delete_22 : decode cX0_delete 22 = .ok (.ifCond .ne 13, 3) := by decide +kernel
theorem dX0_delete_25 : decode cX0_delete 25 = .ok (.new 80, 3) := by decide +kernel
theorem dX0_delete_28 : decode cX0_delete 28 = .ok (.dup, 1) := by decide +kernel
theorem dX0_delete_29 : decode cX0_delete 29 = .ok (.ldc 82, 2) := by decide +kernel
theorem dX0_delete_31 : decode cX0_delete 31 = .ok (.invokespecial 84, 3) := by decide +kernel
theorem dX0_delete_34 : decode cX0_delete 34 = .ok (.athrow, 1) := by decide +kernel
theorem dX0_delete_35 : decode cX0_delete 35 = .ok (.aload_n 0, 1) := by decide +kernel
theorem dX0_delete_36 : decode cX0_delete 36 = .ok (.iload_n 1, 1) := by decide +kernel
theorem dX0_delete_37 : decode cX0_delete 37 = .ok (.invokevirtual 85, 3) := by decide +kernel
theorem dX0_delete_40 : decode cX0_delete 40 = .ok (.istore_n 2, 1) := by decide +kernel
theorem dX0_delete_41 : decode cX0_delete 41 = .ok (.aload_n 0, 1) := by decide +kernel
theorem dX0_delete_42 : decode cX0_delete 42 = .ok (.iload_n 1, 1) := by decide +kernel
theorem dX0_delete_43 : decode cX0_delete 43 = .ok (.invokevirtual 89, 3) := by decide +kernel
theorem dX0_delete_46 : decode cX0_delete 46 = .ok (.aload_n 0, 1) := by decide +kernel
theorem dX0_delete_47 : decode cX0_delete 47 = .ok (.iload_n 1, 1) := by decide +kernel
theorem dX0_delete_48 : decode cX0_delete 48 = .ok (.invokevirtual 76, 3) := by decide +kernel
theorem dX0_delete_51 : decode cX0_delete 51 = .ok (.iload_n 2, 1) := by decide +kernel
theorem dX0_delete_52 : decode cX0_delete 52 = .ok (.ireturn, 1) := by decide +kernel
theorem dX0_rekey_0 : decode cX0_rekey 0 = .ok (.iload_n 1, 1) := by decide +kernel
theorem dX0_rekey_1 : decode cX0_rekey 1 = .ok (.invokestatic 44, 3) := by decide +kernel
theorem dX0_rekey_4 : decode cX0_rekey 4 = .ok (.ifCond .eq 10, 3) := by decide +kernel
theorem dX0_rekey_7 : decode cX0_rekey 7 = .ok (.iload_n 2, 1) := by decide +kernel
theorem dX0_rekey_8 : decode cX0_rekey 8 = .ok (.invokestatic 44, 3) := by decide +kernel
theorem dX0_rekey_11 : decode cX0_rekey 11 = .ok (.ifCond .ne 13, 3) := by decide +kernel
theorem dX0_rekey_14 : decode cX0_rekey 14 = .ok (.new 48, 3) := by decide +kernel
theorem dX0_rekey_17 : decode cX0_rekey 17 = .ok (.dup, 1) := by decide +kernel
theorem dX0_rekey_18 : decode cX0_rekey 18 = .ok (.ldc 50, 2) := by decide +kernel
theorem dX0_rekey_20 : decode cX0_rekey 20 = .ok (.invokespecial 52, 3) := by decide +kernel
theorem dX0_rekey_23 : decode cX0_rekey 23 = .ok (.athrow, 1) := by decide +kernel
theorem dX0_rekey_24 : decode cX0_rekey 24 = .ok (.iload_n 1, 1) := by decide +kernel
theorem dX0_rekey_25 : decode cX0_rekey 25 = .ok (.iload_n 2, 1) := by decide +kernel
theorem dX0_rekey_26 : decode cX0_rekey 26 = .ok (.if_icmp .ne 13, 3) := by decide +kernel
theorem dX0_rekey_29 : decode cX0_rekey 29 = .ok (.new 59, 3) := by decide +kernel
theorem dX0_rekey_32 : decode cX0_rekey 32 = .ok (.dup, 1) := by decide +kernel
theorem dX0_rekey_33 : decode cX0_rekey 33 = .ok (.ldc 92, 2) := by decide +kernel
theorem dX0_rekey_35 : decode cX0_rekey 35 = .ok (.invokespecial 63, 3) := by decide +kernel
theorem dX0_rekey_38 : decode cX0_rekey 38 = .ok (.athrow, 1) := by decide +kernel
theorem dX0_rekey_39 : decode cX0_rekey 39 = .ok (.aload_n 0, 1) := by decide +kernel
theorem dX0_rekey_40 : decode cX0_rekey 40 = .ok (.iload_n 1, 1) := by decide +kernel
theorem dX0_rekey_41 : decode cX0_rekey 41 = .ok (.invokevirtual 64, 3) := by decide +kernel
theorem dX0_rekey_44 : decode cX0_rekey 44 = .ok (.ifCond .ne 13, 3) := by decide +kernel
theorem dX0_rekey_47 : decode cX0_rekey 47 = .ok (.new 80, 3) := by decide +kernel
theorem dX0_rekey_50 : decode cX0_rekey 50 = .ok (.dup, 1) := by decide +kernel
theorem dX0_rekey_51 : decode cX0_rekey 51 = .ok (.ldc 94, 2) := by decide +kernel
theorem dX0_rekey_53 : decode cX0_rekey 53 = .ok (.invokespecial 84, 3) := by decide +kernel
theorem dX0_rekey_56 : decode cX0_rekey 56 = .ok (.athrow, 1) := by decide +kernel
theorem dX0_rekey_57 : decode cX0_rekey 57 = .ok (.aload_n 0, 1) := by decide +kernel
theorem dX0_rekey_58 : decode cX0_rekey 58 = .ok (.iload_n 2, 1) := by decide +kernel
theorem dX0_rekey_59 : decode cX0_rekey 59 = .ok (.invokevirtual 64, 3) := by decide +kernel
theorem dX0_rekey_62 : decode cX0_rekey 62 = .ok (.ifCond .eq 13, 3) := by decide +kernel
theorem dX0_rekey_65 : decode cX0_rekey 65 = .ok (.new 67, 3) := by decide +kernel
theorem dX0_rekey_68 : decode cX0_rekey 68 = .ok (.dup, 1) := by decide +kernel
theorem dX0_rekey_69 : decode cX0_rekey 69 = .ok (.ldc 96, 2) := by decide +kernel
theorem dX0_rekey_71 : decode cX0_rekey 71 = .ok (.invokespecial 71, 3) := by decide +kernel
theorem dX0_rekey_74 : decode cX0_rekey 74 = .ok (.athrow, 1) := by decide +kernel
theorem dX0_rekey_75 : decode cX0_rekey 75 = .ok (.aload_n 0, 1) := by decide +kernel
theorem dX0_rekey_76 : decode cX0_rekey 76 = .ok (.iload_n 2, 1) := by decide +kernel
theorem dX0_rekey_77 : decode cX0_rekey 77 = .ok (.aload_n 0, 1) := by decide +kernel
theorem dX0_rekey_78 : decode cX0_rekey 78 = .ok (.getfield 9, 3) := by decide +kernel
theorem dX0_rekey_81 : decode cX0_rekey 81 = .ok (.iload_n 1, 1) := by decide +kernel
theorem dX0_rekey_82 : decode cX0_rekey 82 = .ok (.iaload, 1) := by decide +kernel
theorem dX0_rekey_83 : decode cX0_rekey 83 = .ok (.aload_n 0, 1) := by decide +kernel
theorem dX0_rekey_84 : decode cX0_rekey 84 = .ok (.getfield 13, 3) := by decide +kernel
theorem dX0_rekey_87 : decode cX0_rekey 87 = .ok (.iload_n 1, 1) := by decide +kernel
theorem dX0_rekey_88 : decode cX0_rekey 88 = .ok (.iaload, 1) := by decide +kernel
theorem dX0_rekey_89 : decode cX0_rekey 89 = .ok (.invokevirtual 72, 3) := by decide +kernel
theorem dX0_rekey_92 : decode cX0_rekey 92 = .ok (.aload_n 0, 1) := by decide +kernel
theorem dX0_rekey_93 : decode cX0_rekey 93 = .ok (.iload_n 1, 1) := by decide +kernel
theorem dX0_rekey_94 : decode cX0_rekey 94 = .ok (.invokevirtual 89, 3) := by decide +kernel
theorem dX0_rekey_97 : decode cX0_rekey 97 = .ok (.aload_n 0, 1) := by decide +kernel
theorem dX0_rekey_98 : decode cX0_rekey 98 = .ok (.iload_n 1, 1) := by decide +kernel
theorem dX0_rekey_99 : decode cX0_rekey 99 = .ok (.iload_n 2, 1) := by decide +kernel
theorem dX0_rekey_100 : decode cX0_rekey 100 = .ok (.invokestatic 98, 3) := by decide +kernel
theorem dX0_rekey_103 : decode cX0_rekey 103 = .ok (.invokevirtual 76, 3) := by decide +kernel
theorem dX0_rekey_106 : decode cX0_rekey 106 = .ok (.aload_n 0, 1) := by decide +kernel
theorem dX0_rekey_107 : decode cX0_rekey 107 = .ok (.iload_n 1, 1) := by decide +kernel
theorem dX0_rekey_108 : decode cX0_rekey 108 = .ok (.iload_n 2, 1) := by decide +kernel
theorem dX0_rekey_109 : decode cX0_rekey 109 = .ok (.invokestatic 104, 3) := by decide +kernel
theorem dX0_rekey_112 : decode cX0_rekey 112 = .ok (.invokevirtual 76, 3) := by decide +kernel
theorem dX0_rekey_115 : decode cX0_rekey 115 = .ok (.return_, 1) := by decide +kernel
theorem dX0_start_0 : decode cX0_start 0 = .ok (.iload_n 1, 1) := by decide +kernel
theorem dX0_start_1 : decode cX0_start 1 = .ok (.iconst 0, 1) := by decide +kernel
theorem dX0_start_2 : decode cX0_start 2 = .ok (.iconst 2, 1) := by decide +kernel
theorem dX0_start_3 : decode cX0_start 3 = .ok (.invokestatic 107, 3) := by decide +kernel
theorem dX0_start_6 : decode cX0_start 6 = .ok (.ifCond .eq 14, 3) := by decide +kernel
theorem dX0_start_9 : decode cX0_start 9 = .ok (.iload_n 2, 1) := by decide +kernel
theorem dX0_start_10 : decode cX0_start 10 = .ok (.iconst 0, 1) := by decide +kernel
theorem dX0_start_11 : decode cX0_start 11 = .ok (.sipush 999, 3) := by decide +kernel
theorem dX0_start_14 : decode cX0_start 14 = .ok (.invokestatic 107, 3) := by decide +kernel
theorem dX0_start_17 : decode cX0_start 17 = .ok (.ifCond .ne 13, 3) := by decide +kernel
theorem dX0_start_20 : decode cX0_start 20 = .ok (.new 59, 3) := by decide +kernel
theorem dX0_start_23 : decode cX0_start 23 = .ok (.dup, 1) := by decide +kernel
theorem dX0_start_24 : decode cX0_start 24 = .ok (.ldc 111, 2) := by decide +kernel
theorem dX0_start_26 : decode cX0_start 26 = .ok (.invokespecial 63, 3) := by decide +kernel
theorem dX0_start_29 : decode cX0_start 29 = .ok (.athrow, 1) := by decide +kernel
theorem dX0_start_30 : decode cX0_start 30 = .ok (.aload_n 0, 1) := by decide +kernel
theorem dX0_start_31 : decode cX0_start 31 = .ok (.getfield 34, 3) := by decide +kernel
theorem dX0_start_34 : decode cX0_start 34 = .ok (.ifCond .eq 13, 3) := by decide +kernel
theorem dX0_start_37 : decode cX0_start 37 = .ok (.new 67, 3) := by decide +kernel
theorem dX0_start_40 : decode cX0_start 40 = .ok (.dup, 1) := by decide +kernel
theorem dX0_start_41 : decode cX0_start 41 = .ok (.ldc 113, 2) := by decide +kernel
theorem dX0_start_43 : decode cX0_start 43 = .ok (.invokespecial 71, 3) := by decide +kernel
theorem dX0_start_46 : decode cX0_start 46 = .ok (.athrow, 1) := by decide +kernel
theorem dX0_start_47 : decode cX0_start 47 = .ok (.aload_n 0, 1) := by decide +kernel
theorem dX0_start_48 : decode cX0_start 48 = .ok (.iload_n 1, 1) := by decide +kernel
theorem dX0_start_49 : decode cX0_start 49 = .ok (.putfield 115, 3) := by decide +kernel
theorem dX0_start_52 : decode cX0_start 52 = .ok (.aload_n 0, 1) := by decide +kernel
theorem dX0_start_53 : decode cX0_start 53 = .ok (.iload_n 2, 1) := by decide +kernel
theorem dX0_start_54 : decode cX0_start 54 = .ok (.putfield 118, 3) := by decide +kernel
theorem dX0_start_57 : decode cX0_start 57 = .ok (.aload_n 0, 1) := by decide +kernel
theorem dX0_start_58 : decode cX0_start 58 = .ok (.iconst 0, 1) := by decide +kernel
theorem dX0_start_59 : decode cX0_start 59 = .ok (.putfield 121, 3) := by decide +kernel
theorem dX0_start_62 : decode cX0_start 62 = .ok (.aload_n 0, 1) := by decide +kernel
theorem dX0_start_63 : decode cX0_start 63 = .ok (.iconst 1, 1) := by decide +kernel
theorem dX0_start_64 : decode cX0_start 64 = .ok (.putfield 34, 3) := by decide +kernel
theorem dX0_start_67 : decode cX0_start 67 = .ok (.return_, 1) := by decide +kernel
theorem dX0_setPace_0 : decode cX0_setPace 0 = .ok (.iload_n 1, 1) := by decide +kernel
theorem dX0_setPace_1 : decode cX0_setPace 1 = .ok (.iconst 1, 1) := by decide +kernel
theorem dX0_setPace_2 : decode cX0_setPace 2 = .ok (.bipush 40, 2) := by decide +kernel
theorem dX0_setPace_4 : decode cX0_setPace 4 = .ok (.invokestatic 107, 3) := by decide +kernel
theorem dX0_setPace_7 : decode cX0_setPace 7 = .ok (.ifCond .eq 13, 3) := by decide +kernel
theorem dX0_setPace_10 : decode cX0_setPace 10 = .ok (.iload_n 2, 1) := by decide +kernel
theorem dX0_setPace_11 : decode cX0_setPace 11 = .ok (.iconst 0, 1) := by decide +kernel
theorem dX0_setPace_12 : decode cX0_setPace 12 = .ok (.bipush 100, 2) := by decide +kernel
theorem dX0_setPace_14 : decode cX0_setPace 14 = .ok (.invokestatic 107, 3) := by decide +kernel
theorem dX0_setPace_17 : decode cX0_setPace 17 = .ok (.ifCond .ne 13, 3) := by decide +kernel
theorem dX0_setPace_20 : decode cX0_setPace 20 = .ok (.new 59, 3) := by decide +kernel
theorem dX0_setPace_23 : decode cX0_setPace 23 = .ok (.dup, 1) := by decide +kernel
theorem dX0_setPace_24 : decode cX0_setPace 24 = .ok (.ldc 124, 2) := by decide +kernel
theorem dX0_setPace_26 : decode cX0_setPace 26 = .ok (.invokespecial 63, 3) := by decide +kernel
theorem dX0_setPace_29 : decode cX0_setPace 29 = .ok (.athrow, 1) := by decide +kernel
theorem dX0_setPace_30 : decode cX0_setPace 30 = .ok (.aload_n 0, 1) := by decide +kernel
theorem dX0_setPace_31 : decode cX0_setPace 31 = .ok (.iload_n 1, 1) := by decide +kernel
theorem dX0_setPace_32 : decode cX0_setPace 32 = .ok (.putfield 38, 3) := by decide +kernel
theorem dX0_setPace_35 : decode cX0_setPace 35 = .ok (.aload_n 0, 1) := by decide +kernel
theorem dX0_setPace_36 : decode cX0_setPace 36 = .ok (.iload_n 2, 1) := by decide +kernel
theorem dX0_setPace_37 : decode cX0_setPace 37 = .ok (.putfield 41, 3) := by decide +kernel
theorem dX0_setPace_40 : decode cX0_setPace 40 = .ok (.return_, 1) := by decide +kernel
theorem dX0_tick_0 : decode cX0_tick 0 = .ok (.iload_n 1, 1) := by decide +kernel
theorem dX0_tick_1 : decode cX0_tick 1 = .ok (.iconst 0, 1) := by decide +kernel
theorem dX0_tick_2 : decode cX0_tick 2 = .ok (.sipush 1000, 3) := by decide +kernel
theorem dX0_tick_5 : decode cX0_tick 5 = .ok (.invokestatic 107, 3) := by decide +kernel
theorem dX0_tick_8 : decode cX0_tick 8 = .ok (.ifCond .ne 13, 3) := by decide +kernel
theorem dX0_tick_11 : decode cX0_tick 11 = .ok (.new 59, 3) := by decide +kernel
theorem dX0_tick_14 : decode cX0_tick 14 = .ok (.dup, 1) := by decide +kernel
theorem dX0_tick_15 : decode cX0_tick 15 = .ok (.ldc 126, 2) := by decide +kernel
theorem dX0_tick_17 : decode cX0_tick 17 = .ok (.invokespecial 63, 3) := by decide +kernel
theorem dX0_tick_20 : decode cX0_tick 20 = .ok (.athrow, 1) := by decide +kernel
theorem dX0_tick_21 : decode cX0_tick 21 = .ok (.aload_n 0, 1) := by decide +kernel
theorem dX0_tick_22 : decode cX0_tick 22 = .ok (.getfield 34, 3) := by decide +kernel
theorem dX0_tick_25 : decode cX0_tick 25 = .ok (.iconst 1, 1) := by decide +kernel
theorem dX0_tick_26 : decode cX0_tick 26 = .ok (.if_icmp .eq 13, 3) := by decide +kernel
theorem dX0_tick_29 : decode cX0_tick 29 = .ok (.new 67, 3) := by decide +kernel
theorem dX0_tick_32 : decode cX0_tick 32 = .ok (.dup, 1) := by decide +kernel
theorem dX0_tick_33 : decode cX0_tick 33 = .ok (.ldc 128, 2) := by decide +kernel
theorem dX0_tick_35 : decode cX0_tick 35 = .ok (.invokespecial 71, 3) := by decide +kernel
theorem dX0_tick_38 : decode cX0_tick 38 = .ok (.athrow, 1) := by decide +kernel
theorem dX0_tick_39 : decode cX0_tick 39 = .ok (.iload_n 1, 1) := by decide +kernel
theorem dX0_tick_40 : decode cX0_tick 40 = .ok (.aload_n 0, 1) := by decide +kernel
theorem dX0_tick_41 : decode cX0_tick 41 = .ok (.getfield 41, 3) := by decide +kernel
theorem dX0_tick_44 : decode cX0_tick 44 = .ok (.if_icmp .le 5, 3) := by decide +kernel
theorem dX0_tick_47 : decode cX0_tick 47 = .ok (.iconst 0, 1) := by decide +kernel
theorem dX0_tick_48 : decode cX0_tick 48 = .ok (.ireturn, 1) := by decide +kernel
theorem dX0_tick_49 : decode cX0_tick 49 = .ok (.aload_n 0, 1) := by decide +kernel
theorem dX0_tick_50 : decode cX0_tick 50 = .ok (.getfield 121, 3) := by decide +kernel
theorem dX0_tick_53 : decode cX0_tick 53 = .ok (.bipush 40, 2) := by decide +kernel
theorem dX0_tick_55 : decode cX0_tick 55 = .ok (.if_icmp .ge 8, 3) := by decide +kernel
theorem dX0_tick_58 : decode cX0_tick 58 = .ok (.aload_n 0, 1) := by decide +kernel
theorem dX0_tick_59 : decode cX0_tick 59 = .ok (.invokevirtual 130, 3) := by decide +kernel
theorem dX0_tick_62 : decode cX0_tick 62 = .ok (.ireturn, 1) := by decide +kernel
theorem dX0_tick_63 : decode cX0_tick 63 = .ok (.aload_n 0, 1) := by decide +kernel
theorem dX0_tick_64 : decode cX0_tick 64 = .ok (.aload_n 0, 1) := by decide +kernel
theorem dX0_tick_65 : decode cX0_tick 65 = .ok (.getfield 38, 3) := by decide +kernel
theorem dX0_tick_68 : decode cX0_tick 68 = .ok (.aload_n 0, 1) := by decide +kernel
theorem dX0_tick_69 : decode cX0_tick 69 = .ok (.getfield 134, 3) := by decide +kernel
theorem dX0_tick_72 : decode cX0_tick 72 = .ok (.invokestatic 98, 3) := by decide +kernel
theorem dX0_tick_75 : decode cX0_tick 75 = .ok (.invokevirtual 137, 3) := by decide +kernel
theorem dX0_tick_78 : decode cX0_tick 78 = .ok (.ireturn, 1) := by decide +kernel
theorem dX0_cutOver_0 : decode cX0_cutOver 0 = .ok (.iload_n 1, 1) := by decide +kernel
theorem dX0_cutOver_1 : decode cX0_cutOver 1 = .ok (.iconst 0, 1) := by decide +kernel
theorem dX0_cutOver_2 : decode cX0_cutOver 2 = .ok (.sipush 1000, 3) := by decide +kernel
theorem dX0_cutOver_5 : decode cX0_cutOver 5 = .ok (.invokestatic 107, 3) := by decide +kernel
theorem dX0_cutOver_8 : decode cX0_cutOver 8 = .ok (.ifCond .ne 13, 3) := by decide +kernel
theorem dX0_cutOver_11 : decode cX0_cutOver 11 = .ok (.new 59, 3) := by decide +kernel
theorem dX0_cutOver_14 : decode cX0_cutOver 14 = .ok (.dup, 1) := by decide +kernel
theorem dX0_cutOver_15 : decode cX0_cutOver 15 = .ok (.ldc 140, 2) := by decide +kernel
theorem dX0_cutOver_17 : decode cX0_cutOver 17 = .ok (.invokespecial 63, 3) := by decide +kernel
theorem dX0_cutOver_20 : decode cX0_cutOver 20 = .ok (.athrow, 1) := by decide +kernel
theorem dX0_cutOver_21 : decode cX0_cutOver 21 = .ok (.aload_n 0, 1) := by decide +kernel
theorem dX0_cutOver_22 : decode cX0_cutOver 22 = .ok (.getfield 34, 3) := by decide +kernel
theorem dX0_cutOver_25 : decode cX0_cutOver 25 = .ok (.iconst 1, 1) := by decide +kernel
theorem dX0_cutOver_26 : decode cX0_cutOver 26 = .ok (.if_icmp .ne 20, 3) := by decide +kernel
theorem dX0_cutOver_29 : decode cX0_cutOver 29 = .ok (.aload_n 0, 1) := by decide +kernel
theorem dX0_cutOver_30 : decode cX0_cutOver 30 = .ok (.getfield 121, 3) := by decide +kernel
theorem dX0_cutOver_33 : decode cX0_cutOver 33 = .ok (.bipush 40, 2) := by decide +kernel
theorem dX0_cutOver_35 : decode cX0_cutOver 35 = .ok (.if_icmp .lt 11, 3) := by decide +kernel
theorem dX0_cutOver_38 : decode cX0_cutOver 38 = .ok (.aload_n 0, 1) := by decide +kernel
theorem dX0_cutOver_39 : decode cX0_cutOver 39 = .ok (.getfield 134, 3) := by decide +kernel
theorem dX0_cutOver_42 : decode cX0_cutOver 42 = .ok (.iload_n 1, 1) := by decide +kernel
theorem dX0_cutOver_43 : decode cX0_cutOver 43 = .ok (.if_icmp .le 13, 3) := by decide +kernel
theorem dX0_cutOver_46 : decode cX0_cutOver 46 = .ok (.new 67, 3) := by decide +kernel
theorem dX0_cutOver_49 : decode cX0_cutOver 49 = .ok (.dup, 1) := by decide +kernel
theorem dX0_cutOver_50 : decode cX0_cutOver 50 = .ok (.ldc 142, 2) := by decide +kernel
theorem dX0_cutOver_52 : decode cX0_cutOver 52 = .ok (.invokespecial 71, 3) := by decide +kernel
theorem dX0_cutOver_55 : decode cX0_cutOver 55 = .ok (.athrow, 1) := by decide +kernel
theorem dX0_cutOver_56 : decode cX0_cutOver 56 = .ok (.aload_n 0, 1) := by decide +kernel
theorem dX0_cutOver_57 : decode cX0_cutOver 57 = .ok (.aload_n 0, 1) := by decide +kernel
theorem dX0_cutOver_58 : decode cX0_cutOver 58 = .ok (.getfield 134, 3) := by decide +kernel
theorem dX0_cutOver_61 : decode cX0_cutOver 61 = .ok (.invokevirtual 137, 3) := by decide +kernel
theorem dX0_cutOver_64 : decode cX0_cutOver 64 = .ok (.istore_n 2, 1) := by decide +kernel
theorem dX0_cutOver_65 : decode cX0_cutOver 65 = .ok (.aload_n 0, 1) := by decide +kernel
theorem dX0_cutOver_66 : decode cX0_cutOver 66 = .ok (.iconst 2, 1) := by decide +kernel
theorem dX0_cutOver_67 : decode cX0_cutOver 67 = .ok (.putfield 34, 3) := by decide +kernel
theorem dX0_cutOver_70 : decode cX0_cutOver 70 = .ok (.iload_n 2, 1) := by decide +kernel
theorem dX0_cutOver_71 : decode cX0_cutOver 71 = .ok (.ireturn, 1) := by decide +kernel
theorem dX0_undo_0 : decode cX0_undo 0 = .ok (.aload_n 0, 1) := by decide +kernel
theorem dX0_undo_1 : decode cX0_undo 1 = .ok (.getfield 34, 3) := by decide +kernel
theorem dX0_undo_4 : decode cX0_undo 4 = .ok (.iconst 2, 1) := by decide +kernel
theorem dX0_undo_5 : decode cX0_undo 5 = .ok (.if_icmp .eq 13, 3) := by decide +kernel
theorem dX0_undo_8 : decode cX0_undo 8 = .ok (.new 67, 3) := by decide +kernel
theorem dX0_undo_11 : decode cX0_undo 11 = .ok (.dup, 1) := by decide +kernel
theorem dX0_undo_12 : decode cX0_undo 12 = .ok (.ldc 144, 2) := by decide +kernel
theorem dX0_undo_14 : decode cX0_undo 14 = .ok (.invokespecial 71, 3) := by decide +kernel
theorem dX0_undo_17 : decode cX0_undo 17 = .ok (.athrow, 1) := by decide +kernel
theorem dX0_undo_18 : decode cX0_undo 18 = .ok (.aload_n 0, 1) := by decide +kernel
theorem dX0_undo_19 : decode cX0_undo 19 = .ok (.iconst 1, 1) := by decide +kernel
theorem dX0_undo_20 : decode cX0_undo 20 = .ok (.putfield 34, 3) := by decide +kernel
theorem dX0_undo_23 : decode cX0_undo 23 = .ok (.return_, 1) := by decide +kernel
theorem dX0_finish_0 : decode cX0_finish 0 = .ok (.aload_n 0, 1) := by decide +kernel
theorem dX0_finish_1 : decode cX0_finish 1 = .ok (.getfield 34, 3) := by decide +kernel
theorem dX0_finish_4 : decode cX0_finish 4 = .ok (.iconst 2, 1) := by decide +kernel
theorem dX0_finish_5 : decode cX0_finish 5 = .ok (.if_icmp .eq 13, 3) := by decide +kernel
theorem dX0_finish_8 : decode cX0_finish 8 = .ok (.new 67, 3) := by decide +kernel
theorem dX0_finish_11 : decode cX0_finish 11 = .ok (.dup, 1) := by decide +kernel
theorem dX0_finish_12 : decode cX0_finish 12 = .ok (.ldc 144, 2) := by decide +kernel
theorem dX0_finish_14 : decode cX0_finish 14 = .ok (.invokespecial 71, 3) := by decide +kernel
theorem dX0_finish_17 : decode cX0_finish 17 = .ok (.athrow, 1) := by decide +kernel
theorem dX0_finish_18 : decode cX0_finish 18 = .ok (.aload_n 0, 1) := by decide +kernel
theorem dX0_finish_19 : decode cX0_finish 19 = .ok (.invokevirtual 146, 3) := by decide +kernel
theorem dX0_finish_22 : decode cX0_finish 22 = .ok (.istore_n 1, 1) := by decide +kernel
theorem dX0_finish_23 : decode cX0_finish 23 = .ok (.aload_n 0, 1) := by decide +kernel
theorem dX0_finish_24 : decode cX0_finish 24 = .ok (.invokevirtual 149, 3) := by decide +kernel
theorem dX0_finish_27 : decode cX0_finish 27 = .ok (.iload_n 1, 1) := by decide +kernel
theorem dX0_finish_28 : decode cX0_finish 28 = .ok (.ireturn, 1) := by decide +kernel
theorem dX0_giveUp_0 : decode cX0_giveUp 0 = .ok (.aload_n 0, 1) := by decide +kernel
theorem dX0_giveUp_1 : decode cX0_giveUp 1 = .ok (.getfield 34, 3) := by decide +kernel
theorem dX0_giveUp_4 : decode cX0_giveUp 4 = .ok (.iconst 1, 1) := by decide +kernel
theorem dX0_giveUp_5 : decode cX0_giveUp 5 = .ok (.if_icmp .eq 13, 3) := by decide +kernel
theorem dX0_giveUp_8 : decode cX0_giveUp 8 = .ok (.new 67, 3) := by decide +kernel
theorem dX0_giveUp_11 : decode cX0_giveUp 11 = .ok (.dup, 1) := by decide +kernel
theorem dX0_giveUp_12 : decode cX0_giveUp 12 = .ok (.ldc 128, 2) := by decide +kernel
theorem dX0_giveUp_14 : decode cX0_giveUp 14 = .ok (.invokespecial 71, 3) := by decide +kernel
theorem dX0_giveUp_17 : decode cX0_giveUp 17 = .ok (.athrow, 1) := by decide +kernel
theorem dX0_giveUp_18 : decode cX0_giveUp 18 = .ok (.aload_n 0, 1) := by decide +kernel
theorem dX0_giveUp_19 : decode cX0_giveUp 19 = .ok (.invokevirtual 152, 3) := by decide +kernel
theorem dX0_giveUp_22 : decode cX0_giveUp 22 = .ok (.istore_n 1, 1) := by decide +kernel
theorem dX0_giveUp_23 : decode cX0_giveUp 23 = .ok (.aload_n 0, 1) := by decide +kernel
theorem dX0_giveUp_24 : decode cX0_giveUp 24 = .ok (.invokevirtual 149, 3) := by decide +kernel
theorem dX0_giveUp_27 : decode cX0_giveUp 27 = .ok (.iload_n 1, 1) := by decide +kernel
theorem dX0_giveUp_28 : decode cX0_giveUp 28 = .ok (.ireturn, 1) := by decide +kernel
theorem dX0_row_0 : decode cX0_row 0 = .ok (.iload_n 1, 1) := by decide +kernel
theorem dX0_row_1 : decode cX0_row 1 = .ok (.invokestatic 44, 3) := by decide +kernel
theorem dX0_row_4 : decode cX0_row 4 = .ok (.ifCond .ne 13, 3) := by decide +kernel
theorem dX0_row_7 : decode cX0_row 7 = .ok (.new 48, 3) := by decide +kernel
theorem dX0_row_10 : decode cX0_row 10 = .ok (.dup, 1) := by decide +kernel
theorem dX0_row_11 : decode cX0_row 11 = .ok (.ldc 50, 2) := by decide +kernel
theorem dX0_row_13 : decode cX0_row 13 = .ok (.invokespecial 52, 3) := by decide +kernel
theorem dX0_row_16 : decode cX0_row 16 = .ok (.athrow, 1) := by decide +kernel
theorem dX0_row_17 : decode cX0_row 17 = .ok (.aload_n 0, 1) := by decide +kernel
theorem dX0_row_18 : decode cX0_row 18 = .ok (.iload_n 1, 1) := by decide +kernel
theorem dX0_row_19 : decode cX0_row 19 = .ok (.invokevirtual 64, 3) := by decide +kernel
theorem dX0_row_22 : decode cX0_row 22 = .ok (.ifCond .eq 11, 3) := by decide +kernel
theorem dX0_row_25 : decode cX0_row 25 = .ok (.aload_n 0, 1) := by decide +kernel
theorem dX0_row_26 : decode cX0_row 26 = .ok (.iload_n 1, 1) := by decide +kernel
theorem dX0_row_27 : decode cX0_row 27 = .ok (.invokevirtual 85, 3) := by decide +kernel
theorem dX0_row_30 : decode cX0_row 30 = .ok (.goto 4, 3) := by decide +kernel
theorem dX0_row_33 : decode cX0_row 33 = .ok (.iconst (-1), 1) := by decide +kernel
theorem dX0_row_34 : decode cX0_row 34 = .ok (.ireturn, 1) := by decide +kernel
theorem dX0_rows_0 : decode cX0_rows 0 = .ok (.iconst 0, 1) := by decide +kernel
theorem dX0_rows_1 : decode cX0_rows 1 = .ok (.istore_n 1, 1) := by decide +kernel
theorem dX0_rows_2 : decode cX0_rows 2 = .ok (.iconst 0, 1) := by decide +kernel
theorem dX0_rows_3 : decode cX0_rows 3 = .ok (.istore_n 2, 1) := by decide +kernel
theorem dX0_rows_4 : decode cX0_rows 4 = .ok (.iload_n 2, 1) := by decide +kernel
theorem dX0_rows_5 : decode cX0_rows 5 = .ok (.bipush 40, 2) := by decide +kernel
theorem dX0_rows_7 : decode cX0_rows 7 = .ok (.if_icmp .ge 20, 3) := by decide +kernel
theorem dX0_rows_10 : decode cX0_rows 10 = .ok (.aload_n 0, 1) := by decide +kernel
theorem dX0_rows_11 : decode cX0_rows 11 = .ok (.iload_n 2, 1) := by decide +kernel
theorem dX0_rows_12 : decode cX0_rows 12 = .ok (.invokevirtual 64, 3) := by decide +kernel
theorem dX0_rows_15 : decode cX0_rows 15 = .ok (.ifCond .eq 6, 3) := by decide +kernel
theorem dX0_rows_18 : decode cX0_rows 18 = .ok (.iinc 1 1, 3) := by decide +kernel
theorem dX0_rows_21 : decode cX0_rows 21 = .ok (.iinc 2 1, 3) := by decide +kernel
theorem dX0_rows_24 : decode cX0_rows 24 = .ok (.goto (-20), 3) := by decide +kernel
theorem dX0_rows_27 : decode cX0_rows 27 = .ok (.iload_n 1, 1) := by decide +kernel
theorem dX0_rows_28 : decode cX0_rows 28 = .ok (.ireturn, 1) := by decide +kernel
theorem dX0_phase_0 : decode cX0_phase 0 = .ok (.aload_n 0, 1) := by decide +kernel
theorem dX0_phase_1 : decode cX0_phase 1 = .ok (.getfield 34, 3) := by decide +kernel
theorem dX0_phase_4 : decode cX0_phase 4 = .ok (.ireturn, 1) := by decide +kernel
theorem dX0_mark_0 : decode cX0_mark 0 = .ok (.aload_n 0, 1) := by decide +kernel
theorem dX0_mark_1 : decode cX0_mark 1 = .ok (.getfield 34, 3) := by decide +kernel
theorem dX0_mark_4 : decode cX0_mark 4 = .ok (.ifCond .ne 7, 3) := by decide +kernel
theorem dX0_mark_7 : decode cX0_mark 7 = .ok (.iconst (-1), 1) := by decide +kernel
theorem dX0_mark_8 : decode cX0_mark 8 = .ok (.goto 7, 3) := by decide +kernel
theorem dX0_mark_11 : decode cX0_mark 11 = .ok (.aload_n 0, 1) := by decide +kernel
theorem dX0_mark_12 : decode cX0_mark 12 = .ok (.getfield 121, 3) := by decide +kernel
theorem dX0_mark_15 : decode cX0_mark 15 = .ok (.ireturn, 1) := by decide +kernel
theorem dX0_notes_0 : decode cX0_notes 0 = .ok (.aload_n 0, 1) := by decide +kernel
theorem dX0_notes_1 : decode cX0_notes 1 = .ok (.getfield 134, 3) := by decide +kernel
theorem dX0_notes_4 : decode cX0_notes 4 = .ok (.ireturn, 1) := by decide +kernel
theorem dX0_shadow_0 : decode cX0_shadow 0 = .ok (.iload_n 1, 1) := by decide +kernel
theorem dX0_shadow_1 : decode cX0_shadow 1 = .ok (.invokestatic 44, 3) := by decide +kernel
theorem dX0_shadow_4 : decode cX0_shadow 4 = .ok (.ifCond .eq 10, 3) := by decide +kernel
theorem dX0_shadow_7 : decode cX0_shadow 7 = .ok (.iload_n 2, 1) := by decide +kernel
theorem dX0_shadow_8 : decode cX0_shadow 8 = .ok (.invokestatic 155, 3) := by decide +kernel
theorem dX0_shadow_11 : decode cX0_shadow 11 = .ok (.ifCond .ne 13, 3) := by decide +kernel
theorem dX0_shadow_14 : decode cX0_shadow 14 = .ok (.new 48, 3) := by decide +kernel
theorem dX0_shadow_17 : decode cX0_shadow 17 = .ok (.dup, 1) := by decide +kernel
theorem dX0_shadow_18 : decode cX0_shadow 18 = .ok (.ldc 158, 2) := by decide +kernel
theorem dX0_shadow_20 : decode cX0_shadow 20 = .ok (.invokespecial 52, 3) := by decide +kernel
theorem dX0_shadow_23 : decode cX0_shadow 23 = .ok (.athrow, 1) := by decide +kernel
theorem dX0_shadow_24 : decode cX0_shadow 24 = .ok (.aload_n 0, 1) := by decide +kernel
theorem dX0_shadow_25 : decode cX0_shadow 25 = .ok (.getfield 18, 3) := by decide +kernel
theorem dX0_shadow_28 : decode cX0_shadow 28 = .ok (.iload_n 2, 1) := by decide +kernel
theorem dX0_shadow_29 : decode cX0_shadow 29 = .ok (.aaload, 1) := by decide +kernel
theorem dX0_shadow_30 : decode cX0_shadow 30 = .ok (.iload_n 1, 1) := by decide +kernel
theorem dX0_shadow_31 : decode cX0_shadow 31 = .ok (.iaload, 1) := by decide +kernel
theorem dX0_shadow_32 : decode cX0_shadow 32 = .ok (.ireturn, 1) := by decide +kernel
theorem dX0_shadowRows_0 : decode cX0_shadowRows 0 = .ok (.iconst 0, 1) := by decide +kernel
theorem dX0_shadowRows_1 : decode cX0_shadowRows 1 = .ok (.istore_n 1, 1) := by decide +kernel
theorem dX0_shadowRows_2 : decode cX0_shadowRows 2 = .ok (.iconst 0, 1) := by decide +kernel
theorem dX0_shadowRows_3 : decode cX0_shadowRows 3 = .ok (.istore_n 2, 1) := by decide +kernel
theorem dX0_shadowRows_4 : decode cX0_shadowRows 4 = .ok (.iload_n 2, 1) := by decide +kernel
theorem dX0_shadowRows_5 : decode cX0_shadowRows 5 = .ok (.bipush 40, 2) := by decide +kernel
theorem dX0_shadowRows_7 : decode cX0_shadowRows 7 = .ok (.if_icmp .ge 20, 3) := by decide +kernel
theorem dX0_shadowRows_10 : decode cX0_shadowRows 10 = .ok (.aload_n 0, 1) := by decide +kernel
theorem dX0_shadowRows_11 : decode cX0_shadowRows 11 = .ok (.iload_n 2, 1) := by decide +kernel
theorem dX0_shadowRows_12 : decode cX0_shadowRows 12 = .ok (.invokevirtual 160, 3) := by decide +kernel
theorem dX0_shadowRows_15 : decode cX0_shadowRows 15 = .ok (.ifCond .eq 6, 3) := by decide +kernel
theorem dX0_shadowRows_18 : decode cX0_shadowRows 18 = .ok (.iinc 1 1, 3) := by decide +kernel
theorem dX0_shadowRows_21 : decode cX0_shadowRows 21 = .ok (.iinc 2 1, 3) := by decide +kernel
theorem dX0_shadowRows_24 : decode cX0_shadowRows 24 = .ok (.goto (-20), 3) := by decide +kernel
theorem dX0_shadowRows_27 : decode cX0_shadowRows 27 = .ok (.iload_n 1, 1) := by decide +kernel
theorem dX0_shadowRows_28 : decode cX0_shadowRows 28 = .ok (.ireturn, 1) := by decide +kernel
theorem dX0_isRefused_0 : decode cX0_isRefused 0 = .ok (.iload_n 1, 1) := by decide +kernel
theorem dX0_isRefused_1 : decode cX0_isRefused 1 = .ok (.invokestatic 44, 3) := by decide +kernel
theorem dX0_isRefused_4 : decode cX0_isRefused 4 = .ok (.ifCond .ne 13, 3) := by decide +kernel
theorem dX0_isRefused_7 : decode cX0_isRefused 7 = .ok (.new 48, 3) := by decide +kernel
theorem dX0_isRefused_10 : decode cX0_isRefused 10 = .ok (.dup, 1) := by decide +kernel
theorem dX0_isRefused_11 : decode cX0_isRefused 11 = .ok (.ldc 50, 2) := by decide +kernel
theorem dX0_isRefused_13 : decode cX0_isRefused 13 = .ok (.invokespecial 52, 3) := by decide +kernel
theorem dX0_isRefused_16 : decode cX0_isRefused 16 = .ok (.athrow, 1) := by decide +kernel
theorem dX0_isRefused_17 : decode cX0_isRefused 17 = .ok (.aload_n 0, 1) := by decide +kernel
theorem dX0_isRefused_18 : decode cX0_isRefused 18 = .ok (.getfield 21, 3) := by decide +kernel
theorem dX0_isRefused_21 : decode cX0_isRefused 21 = .ok (.iload_n 1, 1) := by decide +kernel
theorem dX0_isRefused_22 : decode cX0_isRefused 22 = .ok (.baload, 1) := by decide +kernel
theorem dX0_isRefused_23 : decode cX0_isRefused 23 = .ok (.ireturn, 1) := by decide +kernel
theorem dX0_behind_0 : decode cX0_behind 0 = .ok (.aload_n 0, 1) := by decide +kernel
theorem dX0_behind_1 : decode cX0_behind 1 = .ok (.getfield 34, 3) := by decide +kernel
theorem dX0_behind_4 : decode cX0_behind 4 = .ok (.ifCond .ne 5, 3) := by decide +kernel
theorem dX0_behind_7 : decode cX0_behind 7 = .ok (.iconst 0, 1) := by decide +kernel
theorem dX0_behind_8 : decode cX0_behind 8 = .ok (.ireturn, 1) := by decide +kernel
theorem dX0_behind_9 : decode cX0_behind 9 = .ok (.iconst 0, 1) := by decide +kernel
theorem dX0_behind_10 : decode cX0_behind 10 = .ok (.istore_n 1, 1) := by decide +kernel
theorem dX0_behind_11 : decode cX0_behind 11 = .ok (.iconst 0, 1) := by decide +kernel
theorem dX0_behind_12 : decode cX0_behind 12 = .ok (.istore_n 2, 1) := by decide +kernel
theorem dX0_behind_13 : decode cX0_behind 13 = .ok (.iload_n 2, 1) := by decide +kernel
theorem dX0_behind_14 : decode cX0_behind 14 = .ok (.bipush 40, 2) := by decide +kernel
theorem dX0_behind_16 : decode cX0_behind 16 = .ok (.if_icmp .ge 20, 3) := by decide +kernel
theorem dX0_behind_19 : decode cX0_behind 19 = .ok (.aload_n 0, 1) := by decide +kernel
theorem dX0_behind_20 : decode cX0_behind 20 = .ok (.iload_n 2, 1) := by decide +kernel
theorem dX0_behind_21 : decode cX0_behind 21 = .ok (.invokevirtual 163, 3) := by decide +kernel
theorem dX0_behind_24 : decode cX0_behind 24 = .ok (.ifCond .eq 6, 3) := by decide +kernel
theorem dX0_behind_27 : decode cX0_behind 27 = .ok (.iinc 1 1, 3) := by decide +kernel
theorem dX0_behind_30 : decode cX0_behind 30 = .ok (.iinc 2 1, 3) := by decide +kernel
theorem dX0_behind_33 : decode cX0_behind 33 = .ok (.goto (-20), 3) := by decide +kernel
theorem dX0_behind_36 : decode cX0_behind 36 = .ok (.iload_n 1, 1) := by decide +kernel
theorem dX0_behind_37 : decode cX0_behind 37 = .ok (.ireturn, 1) := by decide +kernel
theorem dX0_sum_0 : decode cX0_sum 0 = .ok (.iload_n 1, 1) := by decide +kernel
theorem dX0_sum_1 : decode cX0_sum 1 = .ok (.invokestatic 155, 3) := by decide +kernel
theorem dX0_sum_4 : decode cX0_sum 4 = .ok (.ifCond .ne 13, 3) := by decide +kernel
theorem dX0_sum_7 : decode cX0_sum 7 = .ok (.new 48, 3) := by decide +kernel
theorem dX0_sum_10 : decode cX0_sum 10 = .ok (.dup, 1) := by decide +kernel
theorem dX0_sum_11 : decode cX0_sum 11 = .ok (.ldc 166, 2) := by decide +kernel
theorem dX0_sum_13 : decode cX0_sum 13 = .ok (.invokespecial 52, 3) := by decide +kernel
theorem dX0_sum_16 : decode cX0_sum 16 = .ok (.athrow, 1) := by decide +kernel
theorem dX0_sum_17 : decode cX0_sum 17 = .ok (.iconst 0, 1) := by decide +kernel
theorem dX0_sum_18 : decode cX0_sum 18 = .ok (.istore_n 2, 1) := by decide +kernel
theorem dX0_sum_19 : decode cX0_sum 19 = .ok (.iconst 0, 1) := by decide +kernel
theorem dX0_sum_20 : decode cX0_sum 20 = .ok (.istore_n 3, 1) := by decide +kernel
theorem dX0_sum_21 : decode cX0_sum 21 = .ok (.iload_n 3, 1) := by decide +kernel
theorem dX0_sum_22 : decode cX0_sum 22 = .ok (.bipush 40, 2) := by decide +kernel
theorem dX0_sum_24 : decode cX0_sum 24 = .ok (.if_icmp .ge 28, 3) := by decide +kernel
theorem dX0_sum_27 : decode cX0_sum 27 = .ok (.aload_n 0, 1) := by decide +kernel
theorem dX0_sum_28 : decode cX0_sum 28 = .ok (.iload_n 3, 1) := by decide +kernel
theorem dX0_sum_29 : decode cX0_sum 29 = .ok (.invokevirtual 160, 3) := by decide +kernel
theorem dX0_sum_32 : decode cX0_sum 32 = .ok (.ifCond .eq 14, 3) := by decide +kernel
theorem dX0_sum_35 : decode cX0_sum 35 = .ok (.iload_n 2, 1) := by decide +kernel
theorem dX0_sum_36 : decode cX0_sum 36 = .ok (.aload_n 0, 1) := by decide +kernel
theorem dX0_sum_37 : decode cX0_sum 37 = .ok (.getfield 18, 3) := by decide +kernel
theorem dX0_sum_40 : decode cX0_sum 40 = .ok (.iload_n 1, 1) := by decide +kernel
theorem dX0_sum_41 : decode cX0_sum 41 = .ok (.aaload, 1) := by decide +kernel
theorem dX0_sum_42 : decode cX0_sum 42 = .ok (.iload_n 3, 1) := by decide +kernel
theorem dX0_sum_43 : decode cX0_sum 43 = .ok (.iaload, 1) := by decide +kernel
theorem dX0_sum_44 : decode cX0_sum 44 = .ok (.iadd, 1) := by decide +kernel
theorem dX0_sum_45 : decode cX0_sum 45 = .ok (.istore_n 2, 1) := by decide +kernel
theorem dX0_sum_46 : decode cX0_sum 46 = .ok (.iinc 3 1, 3) := by decide +kernel
theorem dX0_sum_49 : decode cX0_sum 49 = .ok (.goto (-28), 3) := by decide +kernel
theorem dX0_sum_52 : decode cX0_sum 52 = .ok (.iload_n 2, 1) := by decide +kernel
theorem dX0_sum_53 : decode cX0_sum 53 = .ok (.ireturn, 1) := by decide +kernel
theorem dX0_sumAtOnce_0 : decode cX0_sumAtOnce 0 = .ok (.iload_n 1, 1) := by decide +kernel
theorem dX0_sumAtOnce_1 : decode cX0_sumAtOnce 1 = .ok (.invokestatic 155, 3) := by decide +kernel
theorem dX0_sumAtOnce_4 : decode cX0_sumAtOnce 4 = .ok (.ifCond .ne 13, 3) := by decide +kernel
theorem dX0_sumAtOnce_7 : decode cX0_sumAtOnce 7 = .ok (.new 48, 3) := by decide +kernel
theorem dX0_sumAtOnce_10 : decode cX0_sumAtOnce 10 = .ok (.dup, 1) := by decide +kernel
theorem dX0_sumAtOnce_11 : decode cX0_sumAtOnce 11 = .ok (.ldc 166, 2) := by decide +kernel
theorem dX0_sumAtOnce_13 : decode cX0_sumAtOnce 13 = .ok (.invokespecial 52, 3) := by decide +kernel
theorem dX0_sumAtOnce_16 : decode cX0_sumAtOnce 16 = .ok (.athrow, 1) := by decide +kernel
theorem dX0_sumAtOnce_17 : decode cX0_sumAtOnce 17 = .ok (.aload_n 0, 1) := by decide +kernel
theorem dX0_sumAtOnce_18 : decode cX0_sumAtOnce 18 = .ok (.getfield 34, 3) := by decide +kernel
theorem dX0_sumAtOnce_21 : decode cX0_sumAtOnce 21 = .ok (.ifCond .ne 5, 3) := by decide +kernel
theorem dX0_sumAtOnce_24 : decode cX0_sumAtOnce 24 = .ok (.iconst 0, 1) := by decide +kernel
theorem dX0_sumAtOnce_25 : decode cX0_sumAtOnce 25 = .ok (.ireturn, 1) := by decide +kernel
theorem dX0_sumAtOnce_26 : decode cX0_sumAtOnce 26 = .ok (.iconst 0, 1) := by decide +kernel
theorem dX0_sumAtOnce_27 : decode cX0_sumAtOnce 27 = .ok (.istore_n 2, 1) := by decide +kernel
theorem dX0_sumAtOnce_28 : decode cX0_sumAtOnce 28 = .ok (.iconst 0, 1) := by decide +kernel
theorem dX0_sumAtOnce_29 : decode cX0_sumAtOnce 29 = .ok (.istore_n 3, 1) := by decide +kernel
theorem dX0_sumAtOnce_30 : decode cX0_sumAtOnce 30 = .ok (.iload_n 3, 1) := by decide +kernel
theorem dX0_sumAtOnce_31 : decode cX0_sumAtOnce 31 = .ok (.bipush 40, 2) := by decide +kernel
theorem dX0_sumAtOnce_33 : decode cX0_sumAtOnce 33 = .ok (.if_icmp .ge 28, 3) := by decide +kernel
theorem dX0_sumAtOnce_36 : decode cX0_sumAtOnce 36 = .ok (.aload_n 0, 1) := by decide +kernel
theorem dX0_sumAtOnce_37 : decode cX0_sumAtOnce 37 = .ok (.iload_n 3, 1) := by decide +kernel
theorem dX0_sumAtOnce_38 : decode cX0_sumAtOnce 38 = .ok (.iload_n 1, 1) := by decide +kernel
theorem dX0_sumAtOnce_39 : decode cX0_sumAtOnce 39 = .ok (.invokevirtual 168, 3) := by decide +kernel
theorem dX0_sumAtOnce_42 : decode cX0_sumAtOnce 42 = .ok (.istore 4, 2) := by decide +kernel
theorem dX0_sumAtOnce_44 : decode cX0_sumAtOnce 44 = .ok (.iload 4, 2) := by decide +kernel
theorem dX0_sumAtOnce_46 : decode cX0_sumAtOnce 46 = .ok (.iconst (-1), 1) := by decide +kernel
theorem dX0_sumAtOnce_47 : decode cX0_sumAtOnce 47 = .ok (.if_icmp .eq 8, 3) := by decide +kernel
theorem dX0_sumAtOnce_50 : decode cX0_sumAtOnce 50 = .ok (.iload_n 2, 1) := by decide +kernel
theorem dX0_sumAtOnce_51 : decode cX0_sumAtOnce 51 = .ok (.iload 4, 2) := by decide +kernel
theorem dX0_sumAtOnce_53 : decode cX0_sumAtOnce 53 = .ok (.iadd, 1) := by decide +kernel
theorem dX0_sumAtOnce_54 : decode cX0_sumAtOnce 54 = .ok (.istore_n 2, 1) := by decide +kernel
theorem dX0_sumAtOnce_55 : decode cX0_sumAtOnce 55 = .ok (.iinc 3 1, 3) := by decide +kernel
theorem dX0_sumAtOnce_58 : decode cX0_sumAtOnce 58 = .ok (.goto (-28), 3) := by decide +kernel
theorem dX0_sumAtOnce_61 : decode cX0_sumAtOnce 61 = .ok (.iload_n 2, 1) := by decide +kernel
theorem dX0_sumAtOnce_62 : decode cX0_sumAtOnce 62 = .ok (.ireturn, 1) := by decide +kernel
theorem dX0_isWithin_0 : decode cX0_isWithin 0 = .ok (.iload_n 0, 1) := by decide +kernel
theorem dX0_isWithin_1 : decode cX0_isWithin 1 = .ok (.iload_n 1, 1) := by decide +kernel
theorem dX0_isWithin_2 : decode cX0_isWithin 2 = .ok (.if_icmp .lt 12, 3) := by decide +kernel
theorem dX0_isWithin_5 : decode cX0_isWithin 5 = .ok (.iload_n 0, 1) := by decide +kernel
theorem dX0_isWithin_6 : decode cX0_isWithin 6 = .ok (.iload_n 2, 1) := by decide +kernel
theorem dX0_isWithin_7 : decode cX0_isWithin 7 = .ok (.if_icmp .gt 7, 3) := by decide +kernel
theorem dX0_isWithin_10 : decode cX0_isWithin 10 = .ok (.iconst 1, 1) := by decide +kernel
theorem dX0_isWithin_11 : decode cX0_isWithin 11 = .ok (.goto 4, 3) := by decide +kernel
theorem dX0_isWithin_14 : decode cX0_isWithin 14 = .ok (.iconst 0, 1) := by decide +kernel
theorem dX0_isWithin_15 : decode cX0_isWithin 15 = .ok (.ireturn, 1) := by decide +kernel
theorem dX0_isKey_0 : decode cX0_isKey 0 = .ok (.iload_n 0, 1) := by decide +kernel
theorem dX0_isKey_1 : decode cX0_isKey 1 = .ok (.iconst 0, 1) := by decide +kernel
theorem dX0_isKey_2 : decode cX0_isKey 2 = .ok (.bipush 39, 2) := by decide +kernel
theorem dX0_isKey_4 : decode cX0_isKey 4 = .ok (.invokestatic 107, 3) := by decide +kernel
theorem dX0_isKey_7 : decode cX0_isKey 7 = .ok (.ireturn, 1) := by decide +kernel
theorem dX0_isColumn_0 : decode cX0_isColumn 0 = .ok (.iload_n 0, 1) := by decide +kernel
theorem dX0_isColumn_1 : decode cX0_isColumn 1 = .ok (.iconst 0, 1) := by decide +kernel
theorem dX0_isColumn_2 : decode cX0_isColumn 2 = .ok (.iconst 2, 1) := by decide +kernel
theorem dX0_isColumn_3 : decode cX0_isColumn 3 = .ok (.invokestatic 107, 3) := by decide +kernel
theorem dX0_isColumn_6 : decode cX0_isColumn 6 = .ok (.ireturn, 1) := by decide +kernel
theorem dX0_canBeWritten_0 : decode cX0_canBeWritten 0 = .ok (.iload_n 1, 1) := by decide +kernel
theorem dX0_canBeWritten_1 : decode cX0_canBeWritten 1 = .ok (.iconst 0, 1) := by decide +kernel
theorem dX0_canBeWritten_2 : decode cX0_canBeWritten 2 = .ok (.sipush 999, 3) := by decide +kernel
theorem dX0_canBeWritten_5 : decode cX0_canBeWritten 5 = .ok (.invokestatic 107, 3) := by decide +kernel
theorem dX0_canBeWritten_8 : decode cX0_canBeWritten 8 = .ok (.ifCond .eq 34, 3) := by decide +kernel
theorem dX0_canBeWritten_11 : decode cX0_canBeWritten 11 = .ok (.iload_n 2, 1) := by decide +kernel
theorem dX0_canBeWritten_12 : decode cX0_canBeWritten 12 = .ok (.iconst 0, 1) := by decide +kernel
theorem dX0_canBeWritten_13 : decode cX0_canBeWritten 13 = .ok (.sipush 999, 3) := by decide +kernel
theorem dX0_canBeWritten_16 : decode cX0_canBeWritten 16 = .ok (.invokestatic 107, 3) := by decide +kernel
theorem dX0_canBeWritten_19 : decode cX0_canBeWritten 19 = .ok (.ifCond .eq 23, 3) := by decide +kernel
theorem dX0_canBeWritten_22 : decode cX0_canBeWritten 22 = .ok (.aload_n 0, 1) := by decide +kernel
theorem dX0_canBeWritten_23 : decode cX0_canBeWritten 23 = .ok (.getfield 34, 3) := by decide +kernel
theorem dX0_canBeWritten_26 : decode cX0_canBeWritten 26 = .ok (.iconst 2, 1) := by decide +kernel
theorem dX0_canBeWritten_27 : decode cX0_canBeWritten 27 = .ok (.if_icmp .ne 11, 3) := by decide +kernel
theorem dX0_canBeWritten_30 : decode cX0_canBeWritten 30 = .ok (.aload_n 0, 1) := by decide +kernel
theorem dX0_canBeWritten_31 : decode cX0_canBeWritten 31 = .ok (.iload_n 2, 1) := by decide +kernel
theorem dX0_canBeWritten_32 : decode cX0_canBeWritten 32 = .ok (.invokevirtual 171, 3) := by decide +kernel
theorem dX0_canBeWritten_35 : decode cX0_canBeWritten 35 = .ok (.ifCond .eq 7, 3) := by decide +kernel
theorem dX0_canBeWritten_38 : decode cX0_canBeWritten 38 = .ok (.iconst 1, 1) := by decide +kernel
theorem dX0_canBeWritten_39 : decode cX0_canBeWritten 39 = .ok (.goto 4, 3) := by decide +kernel
theorem dX0_canBeWritten_42 : decode cX0_canBeWritten 42 = .ok (.iconst 0, 1) := by decide +kernel
theorem dX0_canBeWritten_43 : decode cX0_canBeWritten 43 = .ok (.ireturn, 1) := by decide +kernel
theorem dX0_isInOld_0 : decode cX0_isInOld 0 = .ok (.aload_n 0, 1) := by decide +kernel
theorem dX0_isInOld_1 : decode cX0_isInOld 1 = .ok (.getfield 9, 3) := by decide +kernel
theorem dX0_isInOld_4 : decode cX0_isInOld 4 = .ok (.iload_n 1, 1) := by decide +kernel
theorem dX0_isInOld_5 : decode cX0_isInOld 5 = .ok (.iaload, 1) := by decide +kernel
theorem dX0_isInOld_6 : decode cX0_isInOld 6 = .ok (.iconst (-1), 1) := by decide +kernel
theorem dX0_isInOld_7 : decode cX0_isInOld 7 = .ok (.if_icmp .eq 7, 3) := by decide +kernel
theorem dX0_isInOld_10 : decode cX0_isInOld 10 = .ok (.iconst 1, 1) := by decide +kernel
theorem dX0_isInOld_11 : decode cX0_isInOld 11 = .ok (.goto 4, 3) := by decide +kernel
theorem dX0_isInOld_14 : decode cX0_isInOld 14 = .ok (.iconst 0, 1) := by decide +kernel
theorem dX0_isInOld_15 : decode cX0_isInOld 15 = .ok (.ireturn, 1) := by decide +kernel
theorem dX0_isInShadow_0 : decode cX0_isInShadow 0 = .ok (.aload_n 0, 1) := by decide +kernel
theorem dX0_isInShadow_1 : decode cX0_isInShadow 1 = .ok (.getfield 18, 3) := by decide +kernel
theorem dX0_isInShadow_4 : decode cX0_isInShadow 4 = .ok (.iconst 0, 1) := by decide +kernel
theorem dX0_isInShadow_5 : decode cX0_isInShadow 5 = .ok (.aaload, 1) := by decide +kernel
theorem dX0_isInShadow_6 : decode cX0_isInShadow 6 = .ok (.iload_n 1, 1) := by decide +kernel
theorem dX0_isInShadow_7 : decode cX0_isInShadow 7 = .ok (.iaload, 1) := by decide +kernel
theorem dX0_isInShadow_8 : decode cX0_isInShadow 8 = .ok (.iconst (-1), 1) := by decide +kernel
theorem dX0_isInShadow_9 : decode cX0_isInShadow 9 = .ok (.if_icmp .eq 7, 3) := by decide +kernel
theorem dX0_isInShadow_12 : decode cX0_isInShadow 12 = .ok (.iconst 1, 1) := by decide +kernel
theorem dX0_isInShadow_13 : decode cX0_isInShadow 13 = .ok (.goto 4, 3) := by decide +kernel
theorem dX0_isInShadow_16 : decode cX0_isInShadow 16 = .ok (.iconst 0, 1) := by decide +kernel
theorem dX0_isInShadow_17 : decode cX0_isInShadow 17 = .ok (.ireturn, 1) := by decide +kernel
theorem dX0_isSeen_0 : decode cX0_isSeen 0 = .ok (.aload_n 0, 1) := by decide +kernel
theorem dX0_isSeen_1 : decode cX0_isSeen 1 = .ok (.iload_n 1, 1) := by decide +kernel
theorem dX0_isSeen_2 : decode cX0_isSeen 2 = .ok (.invokevirtual 174, 3) := by decide +kernel
theorem dX0_isSeen_5 : decode cX0_isSeen 5 = .ok (.ifCond .eq 23, 3) := by decide +kernel
theorem dX0_isSeen_8 : decode cX0_isSeen 8 = .ok (.aload_n 0, 1) := by decide +kernel
theorem dX0_isSeen_9 : decode cX0_isSeen 9 = .ok (.getfield 34, 3) := by decide +kernel
theorem dX0_isSeen_12 : decode cX0_isSeen 12 = .ok (.iconst 2, 1) := by decide +kernel
theorem dX0_isSeen_13 : decode cX0_isSeen 13 = .ok (.if_icmp .ne 11, 3) := by decide +kernel
theorem dX0_isSeen_16 : decode cX0_isSeen 16 = .ok (.aload_n 0, 1) := by decide +kernel
theorem dX0_isSeen_17 : decode cX0_isSeen 17 = .ok (.iload_n 1, 1) := by decide +kernel
theorem dX0_isSeen_18 : decode cX0_isSeen 18 = .ok (.invokevirtual 160, 3) := by decide +kernel
theorem dX0_isSeen_21 : decode cX0_isSeen 21 = .ok (.ifCond .eq 7, 3) := by decide +kernel
theorem dX0_isSeen_24 : decode cX0_isSeen 24 = .ok (.iconst 1, 1) := by decide +kernel
theorem dX0_isSeen_25 : decode cX0_isSeen 25 = .ok (.goto 4, 3) := by decide +kernel
theorem dX0_isSeen_28 : decode cX0_isSeen 28 = .ok (.iconst 0, 1) := by decide +kernel
theorem dX0_isSeen_29 : decode cX0_isSeen 29 = .ok (.ireturn, 1) := by decide +kernel
theorem dX0_rowAsNumber_0 : decode cX0_rowAsNumber 0 = .ok (.sipush 1000, 3) := by decide +kernel
theorem dX0_rowAsNumber_3 : decode cX0_rowAsNumber 3 = .ok (.aload_n 0, 1) := by decide +kernel
theorem dX0_rowAsNumber_4 : decode cX0_rowAsNumber 4 = .ok (.getfield 9, 3) := by decide +kernel
theorem dX0_rowAsNumber_7 : decode cX0_rowAsNumber 7 = .ok (.iload_n 1, 1) := by decide +kernel
theorem dX0_rowAsNumber_8 : decode cX0_rowAsNumber 8 = .ok (.iaload, 1) := by decide +kernel
theorem dX0_rowAsNumber_9 : decode cX0_rowAsNumber 9 = .ok (.imul, 1) := by decide +kernel
theorem dX0_rowAsNumber_10 : decode cX0_rowAsNumber 10 = .ok (.aload_n 0, 1) := by decide +kernel
theorem dX0_rowAsNumber_11 : decode cX0_rowAsNumber 11 = .ok (.getfield 13, 3) := by decide +kernel
theorem dX0_rowAsNumber_14 : decode cX0_rowAsNumber 14 = .ok (.iload_n 1, 1) := by decide +kernel
theorem dX0_rowAsNumber_15 : decode cX0_rowAsNumber 15 = .ok (.iaload, 1) := by decide +kernel
theorem dX0_rowAsNumber_16 : decode cX0_rowAsNumber 16 = .ok (.iadd, 1) := by decide +kernel
theorem dX0_rowAsNumber_17 : decode cX0_rowAsNumber 17 = .ok (.ireturn, 1) := by decide +kernel
theorem dX0_putRow_0 : decode cX0_putRow 0 = .ok (.aload_n 0, 1) := by decide +kernel
theorem dX0_putRow_1 : decode cX0_putRow 1 = .ok (.getfield 9, 3) := by decide +kernel
theorem dX0_putRow_4 : decode cX0_putRow 4 = .ok (.iload_n 1, 1) := by decide +kernel
theorem dX0_putRow_5 : decode cX0_putRow 5 = .ok (.iload_n 2, 1) := by decide +kernel
theorem dX0_putRow_6 : decode cX0_putRow 6 = .ok (.iastore, 1) := by decide +kernel
theorem dX0_putRow_7 : decode cX0_putRow 7 = .ok (.aload_n 0, 1) := by decide +kernel
theorem dX0_putRow_8 : decode cX0_putRow 8 = .ok (.getfield 13, 3) := by decide +kernel
theorem dX0_putRow_11 : decode cX0_putRow 11 = .ok (.iload_n 1, 1) := by decide +kernel
theorem dX0_putRow_12 : decode cX0_putRow 12 = .ok (.iload_n 3, 1) := by decide +kernel
theorem dX0_putRow_13 : decode cX0_putRow 13 = .ok (.iastore, 1) := by decide +kernel
theorem dX0_putRow_14 : decode cX0_putRow 14 = .ok (.return_, 1) := by decide +kernel
theorem dX0_removeRow_0 : decode cX0_removeRow 0 = .ok (.aload_n 0, 1) := by decide +kernel
theorem dX0_removeRow_1 : decode cX0_removeRow 1 = .ok (.iload_n 1, 1) := by decide +kernel
theorem dX0_removeRow_2 : decode cX0_removeRow 2 = .ok (.iconst (-1), 1) := by decide +kernel
theorem dX0_removeRow_3 : decode cX0_removeRow 3 = .ok (.iconst (-1), 1) := by decide +kernel
theorem dX0_removeRow_4 : decode cX0_removeRow 4 = .ok (.invokevirtual 72, 3) := by decide +kernel
theorem dX0_removeRow_7 : decode cX0_removeRow 7 = .ok (.return_, 1) := by decide +kernel
theorem dX0_removeRowsWithoutShadow_0 : decode cX0_removeRowsWithoutShadow 0 = .ok (.iconst 0, 1) := by decide +kernel
theorem dX0_removeRowsWithoutShadow_1 : decode cX0_removeRowsWithoutShadow 1 = .ok (.istore_n 1, 1) := by decide +kernel
theorem dX0_removeRowsWithoutShadow_2 : decode cX0_removeRowsWithoutShadow 2 = .ok (.iconst 0, 1) := by decide +kernel
theorem dX0_removeRowsWithoutShadow_3 : decode cX0_removeRowsWithoutShadow 3 = .ok (.istore_n 2, 1) := by decide +kernel
theorem dX0_removeRowsWithoutShadow_4 : decode cX0_removeRowsWithoutShadow 4 = .ok (.iload_n 2, 1) := by decide +kernel
theorem dX0_removeRowsWithoutShadow_5 : decode cX0_removeRowsWithoutShadow 5 = .ok (.bipush 40, 2) := by decide +kernel
theorem dX0_removeRowsWithoutShadow_7 : decode cX0_removeRowsWithoutShadow 7 = .ok (.if_icmp .ge 33, 3) := by decide +kernel
theorem dX0_removeRowsWithoutShadow_10 : decode cX0_removeRowsWithoutShadow 10 = .ok (.aload_n 0, 1) := by decide +kernel
theorem dX0_removeRowsWithoutShadow_11 : decode cX0_removeRowsWithoutShadow 11 = .ok (.iload_n 2, 1) := by decide +kernel
theorem dX0_removeRowsWithoutShadow_12 : decode cX0_removeRowsWithoutShadow 12 = .ok (.invokevirtual 174, 3) := by decide +kernel
theorem dX0_removeRowsWithoutShadow_15 : decode cX0_removeRowsWithoutShadow 15 = .ok (.ifCond .eq 19, 3) := by decide +kernel
theorem dX0_removeRowsWithoutShadow_18 : decode cX0_removeRowsWithoutShadow 18 = .ok (.aload_n 0, 1) := by decide +kernel
theorem dX0_removeRowsWithoutShadow_19 : decode cX0_removeRowsWithoutShadow 19 = .ok (.iload_n 2, 1) := by decide +kernel
theorem dX0_removeRowsWithoutShadow_20 : decode cX0_removeRowsWithoutShadow 20 = .ok (.invokevirtual 160, 3) := by decide +kernel
theorem dX0_removeRowsWithoutShadow_23 : decode cX0_removeRowsWithoutShadow 23 = .ok (.ifCond .ne 11, 3) := by decide +kernel
theorem dX0_removeRowsWithoutShadow_26 : decode cX0_removeRowsWithoutShadow 26 = .ok (.aload_n 0, 1) := by decide +kernel
theorem dX0_removeRowsWithoutShadow_27 : decode cX0_removeRowsWithoutShadow 27 = .ok (.iload_n 2, 1) := by decide +kernel
theorem dX0_removeRowsWithoutShadow_28 : decode cX0_removeRowsWithoutShadow 28 = .ok (.invokevirtual 89, 3) := by decide +kernel
theorem dX0_removeRowsWithoutShadow_31 : decode cX0_removeRowsWithoutShadow 31 = .ok (.iinc 1 1, 3) := by decide +kernel
theorem dX0_removeRowsWithoutShadow_34 : decode cX0_removeRowsWithoutShadow 34 = .ok (.iinc 2 1, 3) := by decide +kernel
theorem dX0_removeRowsWithoutShadow_37 : decode cX0_removeRowsWithoutShadow 37 = .ok (.goto (-33), 3) := by decide +kernel
theorem dX0_removeRowsWithoutShadow_40 : decode cX0_removeRowsWithoutShadow 40 = .ok (.iload_n 1, 1) := by decide +kernel
theorem dX0_removeRowsWithoutShadow_41 : decode cX0_removeRowsWithoutShadow 41 = .ok (.ireturn, 1) := by decide +kernel
theorem dX0_fits_0 : decode cX0_fits 0 = .ok (.aload_n 0, 1) := by decide +kernel
theorem dX0_fits_1 : decode cX0_fits 1 = .ok (.getfield 115, 3) := by decide +kernel
theorem dX0_fits_4 : decode cX0_fits 4 = .ok (.iconst 1, 1) := by decide +kernel
theorem dX0_fits_5 : decode cX0_fits 5 = .ok (.if_icmp .ne 11, 3) := by decide +kernel
theorem dX0_fits_8 : decode cX0_fits 8 = .ok (.iload_n 1, 1) := by decide +kernel
theorem dX0_fits_9 : decode cX0_fits 9 = .ok (.aload_n 0, 1) := by decide +kernel
theorem dX0_fits_10 : decode cX0_fits 10 = .ok (.getfield 118, 3) := by decide +kernel
theorem dX0_fits_13 : decode cX0_fits 13 = .ok (.if_icmp .gt 7, 3) := by decide +kernel
theorem dX0_fits_16 : decode cX0_fits 16 = .ok (.iconst 1, 1) := by decide +kernel
theorem dX0_fits_17 : decode cX0_fits 17 = .ok (.goto 4, 3) := by decide +kernel
theorem dX0_fits_20 : decode cX0_fits 20 = .ok (.iconst 0, 1) := by decide +kernel
theorem dX0_fits_21 : decode cX0_fits 21 = .ok (.ireturn, 1) := by decide +kernel
theorem dX0_alteredColumn_0 : decode cX0_alteredColumn 0 = .ok (.iload_n 3, 1) := by decide +kernel
theorem dX0_alteredColumn_1 : decode cX0_alteredColumn 1 = .ok (.lookupswitch 50 #[(0, 27), (1, 43)], 27) := by decide +kernel
theorem dX0_alteredColumn_28 : decode cX0_alteredColumn 28 = .ok (.aload_n 0, 1) := by decide +kernel
theorem dX0_alteredColumn_29 : decode cX0_alteredColumn 29 = .ok (.getfield 115, 3) := by decide +kernel
theorem dX0_alteredColumn_32 : decode cX0_alteredColumn 32 = .ok (.ifCond .ne 10, 3) := by decide +kernel
theorem dX0_alteredColumn_35 : decode cX0_alteredColumn 35 = .ok (.iload_n 1, 1) := by decide +kernel
theorem dX0_alteredColumn_36 : decode cX0_alteredColumn 36 = .ok (.bipush 100, 2) := by decide +kernel
theorem dX0_alteredColumn_38 : decode cX0_alteredColumn 38 = .ok (.idiv, 1) := by decide +kernel
theorem dX0_alteredColumn_39 : decode cX0_alteredColumn 39 = .ok (.goto 4, 3) := by decide +kernel
theorem dX0_alteredColumn_42 : decode cX0_alteredColumn 42 = .ok (.iload_n 1, 1) := by decide +kernel
theorem dX0_alteredColumn_43 : decode cX0_alteredColumn 43 = .ok (.ireturn, 1) := by decide +kernel
theorem dX0_alteredColumn_44 : decode cX0_alteredColumn 44 = .ok (.aload_n 0, 1) := by decide +kernel
theorem dX0_alteredColumn_45 : decode cX0_alteredColumn 45 = .ok (.iload_n 1, 1) := by decide +kernel
theorem dX0_alteredColumn_46 : decode cX0_alteredColumn 46 = .ok (.iload_n 2, 1) := by decide +kernel
theorem dX0_alteredColumn_47 : decode cX0_alteredColumn 47 = .ok (.invokevirtual 177, 3) := by decide +kernel
theorem dX0_alteredColumn_50 : decode cX0_alteredColumn 50 = .ok (.ireturn, 1) := by decide +kernel
theorem dX0_alteredColumn_51 : decode cX0_alteredColumn 51 = .ok (.aload_n 0, 1) := by decide +kernel
theorem dX0_alteredColumn_52 : decode cX0_alteredColumn 52 = .ok (.iload_n 2, 1) := by decide +kernel
theorem dX0_alteredColumn_53 : decode cX0_alteredColumn 53 = .ok (.invokevirtual 180, 3) := by decide +kernel
theorem dX0_alteredColumn_56 : decode cX0_alteredColumn 56 = .ok (.ireturn, 1) := by decide +kernel
theorem dX0_alteredMiddle_0 : decode cX0_alteredMiddle 0 = .ok (.aload_n 0, 1) := by decide +kernel
theorem dX0_alteredMiddle_1 : decode cX0_alteredMiddle 1 = .ok (.getfield 115, 3) := by decide +kernel
theorem dX0_alteredMiddle_4 : decode cX0_alteredMiddle 4 = .ok (.lookupswitch 35 #[(0, 28), (1, 33)], 28) := by decide +kernel
theorem dX0_alteredMiddle_32 : decode cX0_alteredMiddle 32 = .ok (.iload_n 1, 1) := by decide +kernel
theorem dX0_alteredMiddle_33 : decode cX0_alteredMiddle 33 = .ok (.bipush 100, 2) := by decide +kernel
theorem dX0_alteredMiddle_35 : decode cX0_alteredMiddle 35 = .ok (.irem, 1) := by decide +kernel
theorem dX0_alteredMiddle_36 : decode cX0_alteredMiddle 36 = .ok (.ireturn, 1) := by decide +kernel
theorem dX0_alteredMiddle_37 : decode cX0_alteredMiddle 37 = .ok (.iload_n 2, 1) := by decide +kernel
theorem dX0_alteredMiddle_38 : decode cX0_alteredMiddle 38 = .ok (.ireturn, 1) := by decide +kernel
theorem dX0_alteredMiddle_39 : decode cX0_alteredMiddle 39 = .ok (.iload_n 2, 1) := by decide +kernel
theorem dX0_alteredMiddle_40 : decode cX0_alteredMiddle 40 = .ok (.aload_n 0, 1) := by decide +kernel
theorem dX0_alteredMiddle_41 : decode cX0_alteredMiddle 41 = .ok (.getfield 118, 3) := by decide +kernel
theorem dX0_alteredMiddle_44 : decode cX0_alteredMiddle 44 = .ok (.imul, 1) := by decide +kernel
theorem dX0_alteredMiddle_45 : decode cX0_alteredMiddle 45 = .ok (.ireturn, 1) := by decide +kernel
theorem dX0_alteredLast_0 : decode cX0_alteredLast 0 = .ok (.aload_n 0, 1) := by decide +kernel
theorem dX0_alteredLast_1 : decode cX0_alteredLast 1 = .ok (.getfield 115, 3) := by decide +kernel
theorem dX0_alteredLast_4 : decode cX0_alteredLast 4 = .ok (.lookupswitch 32 #[(0, 28), (1, 30)], 28) := by decide +kernel
theorem dX0_alteredLast_32 : decode cX0_alteredLast 32 = .ok (.iload_n 1, 1) := by decide +kernel
theorem dX0_alteredLast_33 : decode cX0_alteredLast 33 = .ok (.ireturn, 1) := by decide +kernel
theorem dX0_alteredLast_34 : decode cX0_alteredLast 34 = .ok (.iconst 0, 1) := by decide +kernel
theorem dX0_alteredLast_35 : decode cX0_alteredLast 35 = .ok (.ireturn, 1) := by decide +kernel
theorem dX0_alteredLast_36 : decode cX0_alteredLast 36 = .ok (.iload_n 1, 1) := by decide +kernel
theorem dX0_alteredLast_37 : decode cX0_alteredLast 37 = .ok (.invokestatic 183, 3) := by decide +kernel
theorem dX0_alteredLast_40 : decode cX0_alteredLast 40 = .ok (.ireturn, 1) := by decide +kernel
theorem dX0_digits_0 : decode cX0_digits 0 = .ok (.iload_n 0, 1) := by decide +kernel
theorem dX0_digits_1 : decode cX0_digits 1 = .ok (.bipush 10, 2) := by decide +kernel
theorem dX0_digits_3 : decode cX0_digits 3 = .ok (.if_icmp .ge 5, 3) := by decide +kernel
theorem dX0_digits_6 : decode cX0_digits 6 = .ok (.iconst 1, 1) := by decide +kernel
theorem dX0_digits_7 : decode cX0_digits 7 = .ok (.ireturn, 1) := by decide +kernel
theorem dX0_digits_8 : decode cX0_digits 8 = .ok (.iload_n 0, 1) := by decide +kernel
theorem dX0_digits_9 : decode cX0_digits 9 = .ok (.bipush 100, 2) := by decide +kernel
theorem dX0_digits_11 : decode cX0_digits 11 = .ok (.if_icmp .ge 7, 3) := by decide +kernel
theorem dX0_digits_14 : decode cX0_digits 14 = .ok (.iconst 2, 1) := by decide +kernel
theorem dX0_digits_15 : decode cX0_digits 15 = .ok (.goto 4, 3) := by decide +kernel
theorem dX0_digits_18 : decode cX0_digits 18 = .ok (.iconst 3, 1) := by decide +kernel
theorem dX0_digits_19 : decode cX0_digits 19 = .ok (.ireturn, 1) := by decide +kernel
theorem dX0_broughtColumn_0 : decode cX0_broughtColumn 0 = .ok (.aload_n 0, 1) := by decide +kernel
theorem dX0_broughtColumn_1 : decode cX0_broughtColumn 1 = .ok (.iload_n 1, 1) := by decide +kernel
theorem dX0_broughtColumn_2 : decode cX0_broughtColumn 2 = .ok (.invokevirtual 174, 3) := by decide +kernel
theorem dX0_broughtColumn_5 : decode cX0_broughtColumn 5 = .ok (.ifCond .eq 16, 3) := by decide +kernel
theorem dX0_broughtColumn_8 : decode cX0_broughtColumn 8 = .ok (.aload_n 0, 1) := by decide +kernel
theorem dX0_broughtColumn_9 : decode cX0_broughtColumn 9 = .ok (.aload_n 0, 1) := by decide +kernel
theorem dX0_broughtColumn_10 : decode cX0_broughtColumn 10 = .ok (.getfield 13, 3) := by decide +kernel
theorem dX0_broughtColumn_13 : decode cX0_broughtColumn 13 = .ok (.iload_n 1, 1) := by decide +kernel
theorem dX0_broughtColumn_14 : decode cX0_broughtColumn 14 = .ok (.iaload, 1) := by decide +kernel
theorem dX0_broughtColumn_15 : decode cX0_broughtColumn 15 = .ok (.invokevirtual 171, 3) := by decide +kernel
theorem dX0_broughtColumn_18 : decode cX0_broughtColumn 18 = .ok (.ifCond .ne 5, 3) := by decide +kernel
theorem dX0_broughtColumn_21 : decode cX0_broughtColumn 21 = .ok (.iconst (-1), 1) := by decide +kernel
theorem dX0_broughtColumn_22 : decode cX0_broughtColumn 22 = .ok (.ireturn, 1) := by decide +kernel
theorem dX0_broughtColumn_23 : decode cX0_broughtColumn 23 = .ok (.aload_n 0, 1) := by decide +kernel
theorem dX0_broughtColumn_24 : decode cX0_broughtColumn 24 = .ok (.aload_n 0, 1) := by decide +kernel
theorem dX0_broughtColumn_25 : decode cX0_broughtColumn 25 = .ok (.getfield 9, 3) := by decide +kernel
theorem dX0_broughtColumn_28 : decode cX0_broughtColumn 28 = .ok (.iload_n 1, 1) := by decide +kernel
theorem dX0_broughtColumn_29 : decode cX0_broughtColumn 29 = .ok (.iaload, 1) := by decide +kernel
theorem dX0_broughtColumn_30 : decode cX0_broughtColumn 30 = .ok (.aload_n 0, 1) := by decide +kernel
theorem dX0_broughtColumn_31 : decode cX0_broughtColumn 31 = .ok (.getfield 13, 3) := by decide +kernel
theorem dX0_broughtColumn_34 : decode cX0_broughtColumn 34 = .ok (.iload_n 1, 1) := by decide +kernel
theorem dX0_broughtColumn_35 : decode cX0_broughtColumn 35 = .ok (.iaload, 1) := by decide +kernel
theorem dX0_broughtColumn_36 : decode cX0_broughtColumn 36 = .ok (.iload_n 2, 1) := by decide +kernel
theorem dX0_broughtColumn_37 : decode cX0_broughtColumn 37 = .ok (.invokevirtual 186, 3) := by decide +kernel
theorem dX0_broughtColumn_40 : decode cX0_broughtColumn 40 = .ok (.ireturn, 1) := by decide +kernel
theorem dX0_bring_0 : decode cX0_bring 0 = .ok (.iconst 0, 1) := by decide +kernel
theorem dX0_bring_1 : decode cX0_bring 1 = .ok (.istore_n 2, 1) := by decide +kernel
theorem dX0_bring_2 : decode cX0_bring 2 = .ok (.iload_n 2, 1) := by decide +kernel
theorem dX0_bring_3 : decode cX0_bring 3 = .ok (.iconst 3, 1) := by decide +kernel
theorem dX0_bring_4 : decode cX0_bring 4 = .ok (.if_icmp .ge 23, 3) := by decide +kernel
theorem dX0_bring_7 : decode cX0_bring 7 = .ok (.aload_n 0, 1) := by decide +kernel
theorem dX0_bring_8 : decode cX0_bring 8 = .ok (.getfield 18, 3) := by decide +kernel
theorem dX0_bring_11 : decode cX0_bring 11 = .ok (.iload_n 2, 1) := by decide +kernel
theorem dX0_bring_12 : decode cX0_bring 12 = .ok (.aaload, 1) := by decide +kernel
theorem dX0_bring_13 : decode cX0_bring 13 = .ok (.iload_n 1, 1) := by decide +kernel
theorem dX0_bring_14 : decode cX0_bring 14 = .ok (.aload_n 0, 1) := by decide +kernel
theorem dX0_bring_15 : decode cX0_bring 15 = .ok (.iload_n 1, 1) := by decide +kernel
theorem dX0_bring_16 : decode cX0_bring 16 = .ok (.iload_n 2, 1) := by decide +kernel
theorem dX0_bring_17 : decode cX0_bring 17 = .ok (.invokevirtual 168, 3) := by decide +kernel
theorem dX0_bring_20 : decode cX0_bring 20 = .ok (.iastore, 1) := by decide +kernel
theorem dX0_bring_21 : decode cX0_bring 21 = .ok (.iinc 2 1, 3) := by decide +kernel
theorem dX0_bring_24 : decode cX0_bring 24 = .ok (.goto (-22), 3) := by decide +kernel
theorem dX0_bring_27 : decode cX0_bring 27 = .ok (.aload_n 0, 1) := by decide +kernel
theorem dX0_bring_28 : decode cX0_bring 28 = .ok (.getfield 21, 3) := by decide +kernel
theorem dX0_bring_31 : decode cX0_bring 31 = .ok (.iload_n 1, 1) := by decide +kernel
theorem dX0_bring_32 : decode cX0_bring 32 = .ok (.aload_n 0, 1) := by decide +kernel
theorem dX0_bring_33 : decode cX0_bring 33 = .ok (.iload_n 1, 1) := by decide +kernel
theorem dX0_bring_34 : decode cX0_bring 34 = .ok (.invokevirtual 174, 3) := by decide +kernel
theorem dX0_bring_37 : decode cX0_bring 37 = .ok (.ifCond .eq 20, 3) := by decide +kernel
theorem dX0_bring_40 : decode cX0_bring 40 = .ok (.aload_n 0, 1) := by decide +kernel
theorem dX0_bring_41 : decode cX0_bring 41 = .ok (.aload_n 0, 1) := by decide +kernel
theorem dX0_bring_42 : decode cX0_bring 42 = .ok (.getfield 13, 3) := by decide +kernel
theorem dX0_bring_45 : decode cX0_bring 45 = .ok (.iload_n 1, 1) := by decide +kernel
theorem dX0_bring_46 : decode cX0_bring 46 = .ok (.iaload, 1) := by decide +kernel
theorem dX0_bring_47 : decode cX0_bring 47 = .ok (.invokevirtual 171, 3) := by decide +kernel
theorem dX0_bring_50 : decode cX0_bring 50 = .ok (.ifCond .ne 7, 3) := by decide +kernel
theorem dX0_bring_53 : decode cX0_bring 53 = .ok (.iconst 1, 1) := by decide +kernel
theorem dX0_bring_54 : decode cX0_bring 54 = .ok (.goto 4, 3) := by decide +kernel
theorem dX0_bring_57 : decode cX0_bring 57 = .ok (.iconst 0, 1) := by decide +kernel
theorem dX0_bring_58 : decode cX0_bring 58 = .ok (.bastore, 1) := by decide +kernel
theorem dX0_bring_59 : decode cX0_bring 59 = .ok (.return_, 1) := by decide +kernel
theorem dX0_isBehind_0 : decode cX0_isBehind 0 = .ok (.iconst 0, 1) := by decide +kernel
theorem dX0_isBehind_1 : decode cX0_isBehind 1 = .ok (.istore_n 2, 1) := by decide +kernel
theorem dX0_isBehind_2 : decode cX0_isBehind 2 = .ok (.iload_n 2, 1) := by decide +kernel
theorem dX0_isBehind_3 : decode cX0_isBehind 3 = .ok (.iconst 3, 1) := by decide +kernel
theorem dX0_isBehind_4 : decode cX0_isBehind 4 = .ok (.if_icmp .ge 28, 3) := by decide +kernel
theorem dX0_isBehind_7 : decode cX0_isBehind 7 = .ok (.aload_n 0, 1) := by decide +kernel
theorem dX0_isBehind_8 : decode cX0_isBehind 8 = .ok (.getfield 18, 3) := by decide +kernel
theorem dX0_isBehind_11 : decode cX0_isBehind 11 = .ok (.iload_n 2, 1) := by decide +kernel
theorem dX0_isBehind_12 : decode cX0_isBehind 12 = .ok (.aaload, 1) := by decide +kernel
theorem dX0_isBehind_13 : decode cX0_isBehind 13 = .ok (.iload_n 1, 1) := by decide +kernel
theorem dX0_isBehind_14 : decode cX0_isBehind 14 = .ok (.iaload, 1) := by decide +kernel
theorem dX0_isBehind_15 : decode cX0_isBehind 15 = .ok (.aload_n 0, 1) := by decide +kernel
theorem dX0_isBehind_16 : decode cX0_isBehind 16 = .ok (.iload_n 1, 1) := by decide +kernel
theorem dX0_isBehind_17 : decode cX0_isBehind 17 = .ok (.iload_n 2, 1) := by decide +kernel
theorem dX0_isBehind_18 : decode cX0_isBehind 18 = .ok (.invokevirtual 168, 3) := by decide +kernel
theorem dX0_isBehind_21 : decode cX0_isBehind 21 = .ok (.if_icmp .eq 5, 3) := by decide +kernel
theorem dX0_isBehind_24 : decode cX0_isBehind 24 = .ok (.iconst 1, 1) := by decide +kernel
theorem dX0_isBehind_25 : decode cX0_isBehind 25 = .ok (.ireturn, 1) := by decide +kernel
theorem dX0_isBehind_26 : decode cX0_isBehind 26 = .ok (.iinc 2 1, 3) := by decide +kernel
theorem dX0_isBehind_29 : decode cX0_isBehind 29 = .ok (.goto (-27), 3) := by decide +kernel
theorem dX0_isBehind_32 : decode cX0_isBehind 32 = .ok (.iconst 0, 1) := by decide +kernel
theorem dX0_isBehind_33 : decode cX0_isBehind 33 = .ok (.ireturn, 1) := by decide +kernel
theorem dX0_followWrite_0 : decode cX0_followWrite 0 = .ok (.aload_n 0, 1) := by decide +kernel
theorem dX0_followWrite_1 : decode cX0_followWrite 1 = .ok (.getfield 34, 3) := by decide +kernel
theorem dX0_followWrite_4 : decode cX0_followWrite 4 = .ok (.iconst 1, 1) := by decide +kernel
theorem dX0_followWrite_5 : decode cX0_followWrite 5 = .ok (.if_icmp .ne 11, 3) := by decide +kernel
theorem dX0_followWrite_8 : decode cX0_followWrite 8 = .ok (.aload_n 0, 1) := by decide +kernel
theorem dX0_followWrite_9 : decode cX0_followWrite 9 = .ok (.iload_n 1, 1) := by decide +kernel
theorem dX0_followWrite_10 : decode cX0_followWrite 10 = .ok (.invokevirtual 190, 3) := by decide +kernel
theorem dX0_followWrite_13 : decode cX0_followWrite 13 = .ok (.goto 16, 3) := by decide +kernel
theorem dX0_followWrite_16 : decode cX0_followWrite 16 = .ok (.aload_n 0, 1) := by decide +kernel
theorem dX0_followWrite_17 : decode cX0_followWrite 17 = .ok (.getfield 34, 3) := by decide +kernel
theorem dX0_followWrite_20 : decode cX0_followWrite 20 = .ok (.iconst 2, 1) := by decide +kernel
theorem dX0_followWrite_21 : decode cX0_followWrite 21 = .ok (.if_icmp .ne 8, 3) := by decide +kernel
theorem dX0_followWrite_24 : decode cX0_followWrite 24 = .ok (.aload_n 0, 1) := by decide +kernel
theorem dX0_followWrite_25 : decode cX0_followWrite 25 = .ok (.iload_n 1, 1) := by decide +kernel
theorem dX0_followWrite_26 : decode cX0_followWrite 26 = .ok (.invokevirtual 193, 3) := by decide +kernel
theorem dX0_followWrite_29 : decode cX0_followWrite 29 = .ok (.return_, 1) := by decide +kernel
theorem dX0_noteKey_0 : decode cX0_noteKey 0 = .ok (.aload_n 0, 1) := by decide +kernel
theorem dX0_noteKey_1 : decode cX0_noteKey 1 = .ok (.getfield 134, 3) := by decide +kernel
theorem dX0_noteKey_4 : decode cX0_noteKey 4 = .ok (.sipush 1024, 3) := by decide +kernel
theorem dX0_noteKey_7 : decode cX0_noteKey 7 = .ok (.if_icmp .ge 23, 3) := by decide +kernel
theorem dX0_noteKey_10 : decode cX0_noteKey 10 = .ok (.aload_n 0, 1) := by decide +kernel
theorem dX0_noteKey_11 : decode cX0_noteKey 11 = .ok (.getfield 25, 3) := by decide +kernel
theorem dX0_noteKey_14 : decode cX0_noteKey 14 = .ok (.aload_n 0, 1) := by decide +kernel
theorem dX0_noteKey_15 : decode cX0_noteKey 15 = .ok (.getfield 134, 3) := by decide +kernel
theorem dX0_noteKey_18 : decode cX0_noteKey 18 = .ok (.iload_n 1, 1) := by decide +kernel
theorem dX0_noteKey_19 : decode cX0_noteKey 19 = .ok (.iastore, 1) := by decide +kernel
theorem dX0_noteKey_20 : decode cX0_noteKey 20 = .ok (.aload_n 0, 1) := by decide +kernel
theorem dX0_noteKey_21 : decode cX0_noteKey 21 = .ok (.dup, 1) := by decide +kernel
theorem dX0_noteKey_22 : decode cX0_noteKey 22 = .ok (.getfield 134, 3) := by decide +kernel
theorem dX0_noteKey_25 : decode cX0_noteKey 25 = .ok (.iconst 1, 1) := by decide +kernel
theorem dX0_noteKey_26 : decode cX0_noteKey 26 = .ok (.iadd, 1) := by decide +kernel
theorem dX0_noteKey_27 : decode cX0_noteKey 27 = .ok (.putfield 134, 3) := by decide +kernel
theorem dX0_noteKey_30 : decode cX0_noteKey 30 = .ok (.return_, 1) := by decide +kernel
theorem dX0_copyChunk_0 : decode cX0_copyChunk 0 = .ok (.aload_n 0, 1) := by decide +kernel
theorem dX0_copyChunk_1 : decode cX0_copyChunk 1 = .ok (.getfield 121, 3) := by decide +kernel
theorem dX0_copyChunk_4 : decode cX0_copyChunk 4 = .ok (.aload_n 0, 1) := by decide +kernel
theorem dX0_copyChunk_5 : decode cX0_copyChunk 5 = .ok (.getfield 38, 3) := by decide +kernel
theorem dX0_copyChunk_8 : decode cX0_copyChunk 8 = .ok (.iadd, 1) := by decide +kernel
theorem dX0_copyChunk_9 : decode cX0_copyChunk 9 = .ok (.bipush 40, 2) := by decide +kernel
theorem dX0_copyChunk_11 : decode cX0_copyChunk 11 = .ok (.invokestatic 98, 3) := by decide +kernel
theorem dX0_copyChunk_14 : decode cX0_copyChunk 14 = .ok (.istore_n 1, 1) := by decide +kernel
theorem dX0_copyChunk_15 : decode cX0_copyChunk 15 = .ok (.iload_n 1, 1) := by decide +kernel
theorem dX0_copyChunk_16 : decode cX0_copyChunk 16 = .ok (.aload_n 0, 1) := by decide +kernel
theorem dX0_copyChunk_17 : decode cX0_copyChunk 17 = .ok (.getfield 121, 3) := by decide +kernel
theorem dX0_copyChunk_20 : decode cX0_copyChunk 20 = .ok (.isub, 1) := by decide +kernel
theorem dX0_copyChunk_21 : decode cX0_copyChunk 21 = .ok (.istore_n 2, 1) := by decide +kernel
theorem dX0_copyChunk_22 : decode cX0_copyChunk 22 = .ok (.aload_n 0, 1) := by decide +kernel
theorem dX0_copyChunk_23 : decode cX0_copyChunk 23 = .ok (.getfield 121, 3) := by decide +kernel
theorem dX0_copyChunk_26 : decode cX0_copyChunk 26 = .ok (.istore_n 3, 1) := by decide +kernel
theorem dX0_copyChunk_27 : decode cX0_copyChunk 27 = .ok (.iload_n 3, 1) := by decide +kernel
theorem dX0_copyChunk_28 : decode cX0_copyChunk 28 = .ok (.iload_n 1, 1) := by decide +kernel
theorem dX0_copyChunk_29 : decode cX0_copyChunk 29 = .ok (.if_icmp .ge 14, 3) := by decide +kernel
theorem dX0_copyChunk_32 : decode cX0_copyChunk 32 = .ok (.aload_n 0, 1) := by decide +kernel
theorem dX0_copyChunk_33 : decode cX0_copyChunk 33 = .ok (.iload_n 3, 1) := by decide +kernel
theorem dX0_copyChunk_34 : decode cX0_copyChunk 34 = .ok (.invokevirtual 193, 3) := by decide +kernel
theorem dX0_copyChunk_37 : decode cX0_copyChunk 37 = .ok (.iinc 3 1, 3) := by decide +kernel
theorem dX0_copyChunk_40 : decode cX0_copyChunk 40 = .ok (.goto (-13), 3) := by decide +kernel
theorem dX0_copyChunk_43 : decode cX0_copyChunk 43 = .ok (.aload_n 0, 1) := by decide +kernel
theorem dX0_copyChunk_44 : decode cX0_copyChunk 44 = .ok (.iload_n 1, 1) := by decide +kernel
theorem dX0_copyChunk_45 : decode cX0_copyChunk 45 = .ok (.putfield 121, 3) := by decide +kernel
theorem dX0_copyChunk_48 : decode cX0_copyChunk 48 = .ok (.iload_n 2, 1) := by decide +kernel
theorem dX0_copyChunk_49 : decode cX0_copyChunk 49 = .ok (.ireturn, 1) := by decide +kernel
theorem dX0_playNotes_0 : decode cX0_playNotes 0 = .ok (.iconst 0, 1) := by decide +kernel
theorem dX0_playNotes_1 : decode cX0_playNotes 1 = .ok (.istore_n 2, 1) := by decide +kernel
theorem dX0_playNotes_2 : decode cX0_playNotes 2 = .ok (.iload_n 2, 1) := by decide +kernel
theorem dX0_playNotes_3 : decode cX0_playNotes 3 = .ok (.iload_n 1, 1) := by decide +kernel
theorem dX0_playNotes_4 : decode cX0_playNotes 4 = .ok (.if_icmp .ge 19, 3) := by decide +kernel
theorem dX0_playNotes_7 : decode cX0_playNotes 7 = .ok (.aload_n 0, 1) := by decide +kernel
theorem dX0_playNotes_8 : decode cX0_playNotes 8 = .ok (.aload_n 0, 1) := by decide +kernel
theorem dX0_playNotes_9 : decode cX0_playNotes 9 = .ok (.getfield 25, 3) := by decide +kernel
theorem dX0_playNotes_12 : decode cX0_playNotes 12 = .ok (.iload_n 2, 1) := by decide +kernel
theorem dX0_playNotes_13 : decode cX0_playNotes 13 = .ok (.iaload, 1) := by decide +kernel
theorem dX0_playNotes_14 : decode cX0_playNotes 14 = .ok (.invokevirtual 193, 3) := by decide +kernel
theorem dX0_playNotes_17 : decode cX0_playNotes 17 = .ok (.iinc 2 1, 3) := by decide +kernel
theorem dX0_playNotes_20 : decode cX0_playNotes 20 = .ok (.goto (-18), 3) := by decide +kernel
theorem dX0_playNotes_23 : decode cX0_playNotes 23 = .ok (.aload_n 0, 1) := by decide +kernel
theorem dX0_playNotes_24 : decode cX0_playNotes 24 = .ok (.dup, 1) := by decide +kernel
theorem dX0_playNotes_25 : decode cX0_playNotes 25 = .ok (.getfield 134, 3) := by decide +kernel
theorem dX0_playNotes_28 : decode cX0_playNotes 28 = .ok (.iload_n 1, 1) := by decide +kernel
theorem dX0_playNotes_29 : decode cX0_playNotes 29 = .ok (.isub, 1) := by decide +kernel
theorem dX0_playNotes_30 : decode cX0_playNotes 30 = .ok (.putfield 134, 3) := by decide +kernel
theorem dX0_playNotes_33 : decode cX0_playNotes 33 = .ok (.aload_n 0, 1) := by decide +kernel
theorem dX0_playNotes_34 : decode cX0_playNotes 34 = .ok (.getfield 25, 3) := by decide +kernel
theorem dX0_playNotes_37 : decode cX0_playNotes 37 = .ok (.iload_n 1, 1) := by decide +kernel
theorem dX0_playNotes_38 : decode cX0_playNotes 38 = .ok (.aload_n 0, 1) := by decide +kernel
theorem dX0_playNotes_39 : decode cX0_playNotes 39 = .ok (.getfield 25, 3) := by decide +kernel
theorem dX0_playNotes_42 : decode cX0_playNotes 42 = .ok (.iconst 0, 1) := by decide +kernel
theorem dX0_playNotes_43 : decode cX0_playNotes 43 = .ok (.aload_n 0, 1) := by decide +kernel
theorem dX0_playNotes_44 : decode cX0_playNotes 44 = .ok (.getfield 134, 3) := by decide +kernel
theorem dX0_playNotes_47 : decode cX0_playNotes 47 = .ok (.invokestatic 196, 3) := by decide +kernel
theorem dX0_playNotes_50 : decode cX0_playNotes 50 = .ok (.iload_n 1, 1) := by decide +kernel
theorem dX0_playNotes_51 : decode cX0_playNotes 51 = .ok (.ireturn, 1) := by decide +kernel
theorem dX0_endChange_0 : decode cX0_endChange 0 = .ok (.aload_n 0, 1) := by decide +kernel
theorem dX0_endChange_1 : decode cX0_endChange 1 = .ok (.getfield 18, 3) := by decide +kernel
theorem dX0_endChange_4 : decode cX0_endChange 4 = .ok (.astore_n 1, 1) := by decide +kernel
theorem dX0_endChange_5 : decode cX0_endChange 5 = .ok (.aload_n 1, 1) := by decide +kernel
theorem dX0_endChange_6 : decode cX0_endChange 6 = .ok (.arraylength, 1) := by decide +kernel
theorem dX0_endChange_7 : decode cX0_endChange 7 = .ok (.istore_n 2, 1) := by decide +kernel
theorem dX0_endChange_8 : decode cX0_endChange 8 = .ok (.iconst 0, 1) := by decide +kernel
theorem dX0_endChange_9 : decode cX0_endChange 9 = .ok (.istore_n 3, 1) := by decide +kernel
theorem dX0_endChange_10 : decode cX0_endChange 10 = .ok (.iload_n 3, 1) := by decide +kernel
theorem dX0_endChange_11 : decode cX0_endChange 11 = .ok (.iload_n 2, 1) := by decide +kernel
theorem dX0_endChange_12 : decode cX0_endChange 12 = .ok (.if_icmp .ge 20, 3) := by decide +kernel
theorem dX0_endChange_15 : decode cX0_endChange 15 = .ok (.aload_n 1, 1) := by decide +kernel
theorem dX0_endChange_16 : decode cX0_endChange 16 = .ok (.iload_n 3, 1) := by decide +kernel
theorem dX0_endChange_17 : decode cX0_endChange 17 = .ok (.aaload, 1) := by decide +kernel
theorem dX0_endChange_18 : decode cX0_endChange 18 = .ok (.astore 4, 2) := by decide +kernel
theorem dX0_endChange_20 : decode cX0_endChange 20 = .ok (.aload 4, 2) := by decide +kernel
theorem dX0_endChange_22 : decode cX0_endChange 22 = .ok (.iconst (-1), 1) := by decide +kernel
theorem dX0_endChange_23 : decode cX0_endChange 23 = .ok (.invokestatic 28, 3) := by decide +kernel
theorem dX0_endChange_26 : decode cX0_endChange 26 = .ok (.iinc 3 1, 3) := by decide +kernel
theorem dX0_endChange_29 : decode cX0_endChange 29 = .ok (.goto (-19), 3) := by decide +kernel
theorem dX0_endChange_32 : decode cX0_endChange 32 = .ok (.iconst 0, 1) := by decide +kernel
theorem dX0_endChange_33 : decode cX0_endChange 33 = .ok (.istore_n 1, 1) := by decide +kernel
theorem dX0_endChange_34 : decode cX0_endChange 34 = .ok (.iload_n 1, 1) := by decide +kernel
theorem dX0_endChange_35 : decode cX0_endChange 35 = .ok (.bipush 40, 2) := by decide +kernel
theorem dX0_endChange_37 : decode cX0_endChange 37 = .ok (.if_icmp .ge 16, 3) := by decide +kernel
theorem dX0_endChange_40 : decode cX0_endChange 40 = .ok (.aload_n 0, 1) := by decide +kernel
theorem dX0_endChange_41 : decode cX0_endChange 41 = .ok (.getfield 21, 3) := by decide +kernel
theorem dX0_endChange_44 : decode cX0_endChange 44 = .ok (.iload_n 1, 1) := by decide +kernel
theorem dX0_endChange_45 : decode cX0_endChange 45 = .ok (.iconst 0, 1) := by decide +kernel
theorem dX0_endChange_46 : decode cX0_endChange 46 = .ok (.bastore, 1) := by decide +kernel
theorem dX0_endChange_47 : decode cX0_endChange 47 = .ok (.iinc 1 1, 3) := by decide +kernel
theorem dX0_endChange_50 : decode cX0_endChange 50 = .ok (.goto (-16), 3) := by decide +kernel
theorem dX0_endChange_53 : decode cX0_endChange 53 = .ok (.aload_n 0, 1) := by decide +kernel
theorem dX0_endChange_54 : decode cX0_endChange 54 = .ok (.iconst 0, 1) := by decide +kernel
theorem dX0_endChange_55 : decode cX0_endChange 55 = .ok (.putfield 134, 3) := by decide +kernel
theorem dX0_endChange_58 : decode cX0_endChange 58 = .ok (.aload_n 0, 1) := by decide +kernel
theorem dX0_endChange_59 : decode cX0_endChange 59 = .ok (.iconst 0, 1) := by decide +kernel
theorem dX0_endChange_60 : decode cX0_endChange 60 = .ok (.putfield 34, 3) := by decide +kernel
theorem dX0_endChange_63 : decode cX0_endChange 63 = .ok (.return_, 1) := by decide +kernel
theorem dJ9_max_7cf53_0 : decode cJ9_max_7cf53 0 = .ok (.iload_n 0, 1) := by decide +kernel
theorem dJ9_max_7cf53_1 : decode cJ9_max_7cf53 1 = .ok (.iload_n 1, 1) := by decide +kernel
theorem dJ9_max_7cf53_2 : decode cJ9_max_7cf53 2 = .ok (.if_icmp .lt 7, 3) := by decide +kernel
theorem dJ9_max_7cf53_5 : decode cJ9_max_7cf53 5 = .ok (.iload_n 0, 1) := by decide +kernel
theorem dJ9_max_7cf53_6 : decode cJ9_max_7cf53 6 = .ok (.goto 4, 3) := by decide +kernel
theorem dJ9_max_7cf53_9 : decode cJ9_max_7cf53 9 = .ok (.iload_n 1, 1) := by decide +kernel
theorem dJ9_max_7cf53_10 : decode cJ9_max_7cf53 10 = .ok (.ireturn, 1) := by decide +kernel
theorem dJ9_min_7cf53_0 : decode cJ9_min_7cf53 0 = .ok (.iload_n 0, 1) := by decide +kernel
theorem dJ9_min_7cf53_1 : decode cJ9_min_7cf53 1 = .ok (.iload_n 1, 1) := by decide +kernel
theorem dJ9_min_7cf53_2 : decode cJ9_min_7cf53 2 = .ok (.if_icmp .gt 7, 3) := by decide +kernel
theorem dJ9_min_7cf53_5 : decode cJ9_min_7cf53 5 = .ok (.iload_n 0, 1) := by decide +kernel
theorem dJ9_min_7cf53_6 : decode cJ9_min_7cf53 6 = .ok (.goto 4, 3) := by decide +kernel
theorem dJ9_min_7cf53_9 : decode cJ9_min_7cf53 9 = .ok (.iload_n 1, 1) := by decide +kernel
theorem dJ9_min_7cf53_10 : decode cJ9_min_7cf53 10 = .ok (.ireturn, 1) := by decide +kernel
theorem dJ7_fill_53178_0 : decode cJ7_fill_53178 0 = .ok (.iconst 0, 1) := by decide +kernel
theorem dJ7_fill_53178_1 : decode cJ7_fill_53178 1 = .ok (.istore_n 2, 1) := by decide +kernel
theorem dJ7_fill_53178_2 : decode cJ7_fill_53178 2 = .ok (.aload_n 0, 1) := by decide +kernel
theorem dJ7_fill_53178_3 : decode cJ7_fill_53178 3 = .ok (.arraylength, 1) := by decide +kernel
theorem dJ7_fill_53178_4 : decode cJ7_fill_53178 4 = .ok (.istore_n 3, 1) := by decide +kernel
theorem dJ7_fill_53178_5 : decode cJ7_fill_53178 5 = .ok (.iload_n 2, 1) := by decide +kernel
theorem dJ7_fill_53178_6 : decode cJ7_fill_53178 6 = .ok (.iload_n 3, 1) := by decide +kernel
theorem dJ7_fill_53178_7 : decode cJ7_fill_53178 7 = .ok (.if_icmp .ge 13, 3) := by decide +kernel
theorem dJ7_fill_53178_10 : decode cJ7_fill_53178 10 = .ok (.aload_n 0, 1) := by decide +kernel
theorem dJ7_fill_53178_11 : decode cJ7_fill_53178 11 = .ok (.iload_n 2, 1) := by decide +kernel
theorem dJ7_fill_53178_12 : decode cJ7_fill_53178 12 = .ok (.iload_n 1, 1) := by decide +kernel
theorem dJ7_fill_53178_13 : decode cJ7_fill_53178 13 = .ok (.iastore, 1) := by decide +kernel
theorem dJ7_fill_53178_14 : decode cJ7_fill_53178 14 = .ok (.iinc 2 1, 3) := by decide +kernel
theorem dJ7_fill_53178_17 : decode cJ7_fill_53178 17 = .ok (.goto (-12), 3) := by decide +kernel
theorem dJ7_fill_53178_20 : decode cJ7_fill_53178 20 = .ok (.return_, 1) := by decide +kernel
end
section
theorem dL_draw_0 : decode cL_draw 0 = .ok (.iload_n 1, 1) := by decide +kernel
theorem dL_draw_1 : decode cL_draw 1 = .ok (.aload_n 0, 1) := by decide +kernel
theorem dL_draw_2 : decode cL_draw 2 = .ok (.arraylength, 1) := by decide +kernel
theorem dL_draw_3 : decode cL_draw 3 = .ok (.if_icmp .ge 9, 3) := by decide +kernel
theorem dL_draw_6 : decode cL_draw 6 = .ok (.aload_n 0, 1) := by decide +kernel
theorem dL_draw_7 : decode cL_draw 7 = .ok (.iload_n 1, 1) := by decide +kernel
theorem dL_draw_8 : decode cL_draw 8 = .ok (.iaload, 1) := by decide +kernel
theorem dL_draw_9 : decode cL_draw 9 = .ok (.goto 14, 3) := by decide +kernel
theorem dL_draw_12 : decode cL_draw 12 = .ok (.ldc 7, 2) := by decide +kernel
theorem dL_draw_14 : decode cL_draw 14 = .ok (.iload_n 1, 1) := by decide +kernel
theorem dL_draw_15 : decode cL_draw 15 = .ok (.sipush 223, 3) := by decide +kernel
theorem dL_draw_18 : decode cL_draw 18 = .ok (.iadd, 1) := by decide +kernel
theorem dL_draw_19 : decode cL_draw 19 = .ok (.imul, 1) := by decide +kernel
theorem dL_draw_20 : decode cL_draw 20 = .ok (.ldc 8, 2) := by decide +kernel
theorem dL_draw_22 : decode cL_draw 22 = .ok (.iadd, 1) := by decide +kernel
theorem dL_draw_23 : decode cL_draw 23 = .ok (.istore_n 3, 1) := by decide +kernel
theorem dL_draw_24 : decode cL_draw 24 = .ok (.iload_n 3, 1) := by decide +kernel
theorem dL_draw_25 : decode cL_draw 25 = .ok (.ldc 9, 2) := by decide +kernel
theorem dL_draw_27 : decode cL_draw 27 = .ok (.iand, 1) := by decide +kernel
theorem dL_draw_28 : decode cL_draw 28 = .ok (.iload_n 2, 1) := by decide +kernel
theorem dL_draw_29 : decode cL_draw 29 = .ok (.irem, 1) := by decide +kernel
theorem dL_draw_30 : decode cL_draw 30 = .ok (.ireturn, 1) := by decide +kernel
theorem dL_writes_0 : decode cL_writes 0 = .ok (.iload_n 1, 1) := by decide +kernel
theorem dL_writes_1 : decode cL_writes 1 = .ok (.ifCond .ne 14, 3) := by decide +kernel
theorem dL_writes_4 : decode cL_writes 4 = .ok (.aload_n 0, 1) := by decide +kernel
theorem dL_writes_5 : decode cL_writes 5 = .ok (.iload_n 2, 1) := by decide +kernel
theorem dL_writes_6 : decode cL_writes 6 = .ok (.iload_n 3, 1) := by decide +kernel
theorem dL_writes_7 : decode cL_writes 7 = .ok (.iload 4, 2) := by decide +kernel
theorem dL_writes_9 : decode cL_writes 9 = .ok (.invokevirtual 10, 3) := by decide +kernel
theorem dL_writes_12 : decode cL_writes 12 = .ok (.goto 25, 3) := by decide +kernel
theorem dL_writes_15 : decode cL_writes 15 = .ok (.iload_n 1, 1) := by decide +kernel
theorem dL_writes_16 : decode cL_writes 16 = .ok (.iconst 1, 1) := by decide +kernel
theorem dL_writes_17 : decode cL_writes 17 = .ok (.if_icmp .ne 14, 3) := by decide +kernel
theorem dL_writes_20 : decode cL_writes 20 = .ok (.aload_n 0, 1) := by decide +kernel
theorem dL_writes_21 : decode cL_writes 21 = .ok (.iload_n 2, 1) := by decide +kernel
theorem dL_writes_22 : decode cL_writes 22 = .ok (.iload_n 3, 1) := by decide +kernel
theorem dL_writes_23 : decode cL_writes 23 = .ok (.iload 4, 2) := by decide +kernel
theorem dL_writes_25 : decode cL_writes 25 = .ok (.invokevirtual 16, 3) := by decide +kernel
theorem dL_writes_28 : decode cL_writes 28 = .ok (.goto 9, 3) := by decide +kernel
theorem dL_writes_31 : decode cL_writes 31 = .ok (.aload_n 0, 1) := by decide +kernel
theorem dL_writes_32 : decode cL_writes 32 = .ok (.iload_n 2, 1) := by decide +kernel
theorem dL_writes_33 : decode cL_writes 33 = .ok (.iload_n 3, 1) := by decide +kernel
theorem dL_writes_34 : decode cL_writes 34 = .ok (.invokevirtual 19, 3) := by decide +kernel
theorem dL_writes_37 : decode cL_writes 37 = .ok (.iconst 0, 1) := by decide +kernel
theorem dL_writes_38 : decode cL_writes 38 = .ok (.ireturn, 1) := by decide +kernel
theorem dL_asks_0 : decode cL_asks 0 = .ok (.iload_n 1, 1) := by decide +kernel
theorem dL_asks_1 : decode cL_asks 1 = .ok (.iconst 3, 1) := by decide +kernel
theorem dL_asks_2 : decode cL_asks 2 = .ok (.if_icmp .ge 15, 3) := by decide +kernel
theorem dL_asks_5 : decode cL_asks 5 = .ok (.aload_n 0, 1) := by decide +kernel
theorem dL_asks_6 : decode cL_asks 6 = .ok (.iload_n 1, 1) := by decide +kernel
theorem dL_asks_7 : decode cL_asks 7 = .ok (.iload_n 2, 1) := by decide +kernel
theorem dL_asks_8 : decode cL_asks 8 = .ok (.iload_n 3, 1) := by decide +kernel
theorem dL_asks_9 : decode cL_asks 9 = .ok (.iload 4, 2) := by decide +kernel
theorem dL_asks_11 : decode cL_asks 11 = .ok (.invokestatic 23, 3) := by decide +kernel
theorem dL_asks_14 : decode cL_asks 14 = .ok (.goto 87, 3) := by decide +kernel
theorem dL_asks_17 : decode cL_asks 17 = .ok (.iload_n 1, 1) := by decide +kernel
theorem dL_asks_18 : decode cL_asks 18 = .ok (.iconst 3, 1) := by decide +kernel
theorem dL_asks_19 : decode cL_asks 19 = .ok (.if_icmp .ne 11, 3) := by decide +kernel
theorem dL_asks_22 : decode cL_asks 22 = .ok (.aload_n 0, 1) := by decide +kernel
theorem dL_asks_23 : decode cL_asks 23 = .ok (.iload_n 2, 1) := by decide +kernel
theorem dL_asks_24 : decode cL_asks 24 = .ok (.invokevirtual 29, 3) := by decide +kernel
theorem dL_asks_27 : decode cL_asks 27 = .ok (.goto 74, 3) := by decide +kernel
theorem dL_asks_30 : decode cL_asks 30 = .ok (.iload_n 1, 1) := by decide +kernel
theorem dL_asks_31 : decode cL_asks 31 = .ok (.iconst 4, 1) := by decide +kernel
theorem dL_asks_32 : decode cL_asks 32 = .ok (.if_icmp .ne 11, 3) := by decide +kernel
theorem dL_asks_35 : decode cL_asks 35 = .ok (.aload_n 0, 1) := by decide +kernel
theorem dL_asks_36 : decode cL_asks 36 = .ok (.iload_n 2, 1) := by decide +kernel
theorem dL_asks_37 : decode cL_asks 37 = .ok (.invokevirtual 33, 3) := by decide +kernel
theorem dL_asks_40 : decode cL_asks 40 = .ok (.goto 61, 3) := by decide +kernel
theorem dL_asks_43 : decode cL_asks 43 = .ok (.iload_n 1, 1) := by decide +kernel
theorem dL_asks_44 : decode cL_asks 44 = .ok (.iconst 5, 1) := by decide +kernel
theorem dL_asks_45 : decode cL_asks 45 = .ok (.if_icmp .ne 11, 3) := by decide +kernel
theorem dL_asks_48 : decode cL_asks 48 = .ok (.aload_n 0, 1) := by decide +kernel
theorem dL_asks_49 : decode cL_asks 49 = .ok (.iload_n 2, 1) := by decide +kernel
theorem dL_asks_50 : decode cL_asks 50 = .ok (.invokevirtual 36, 3) := by decide +kernel
theorem dL_asks_53 : decode cL_asks 53 = .ok (.goto 48, 3) := by decide +kernel
theorem dL_asks_56 : decode cL_asks 56 = .ok (.iload_n 1, 1) := by decide +kernel
theorem dL_asks_57 : decode cL_asks 57 = .ok (.bipush 6, 2) := by decide +kernel
theorem dL_asks_59 : decode cL_asks 59 = .ok (.if_icmp .ne 10, 3) := by decide +kernel
theorem dL_asks_62 : decode cL_asks 62 = .ok (.aload_n 0, 1) := by decide +kernel
theorem dL_asks_63 : decode cL_asks 63 = .ok (.invokevirtual 39, 3) := by decide +kernel
theorem dL_asks_66 : decode cL_asks 66 = .ok (.goto 35, 3) := by decide +kernel
theorem dL_asks_69 : decode cL_asks 69 = .ok (.iload_n 1, 1) := by decide +kernel
theorem dL_asks_70 : decode cL_asks 70 = .ok (.bipush 7, 2) := by decide +kernel
theorem dL_asks_72 : decode cL_asks 72 = .ok (.if_icmp .ne 10, 3) := by decide +kernel
theorem dL_asks_75 : decode cL_asks 75 = .ok (.aload_n 0, 1) := by decide +kernel
theorem dL_asks_76 : decode cL_asks 76 = .ok (.invokevirtual 43, 3) := by decide +kernel
theorem dL_asks_79 : decode cL_asks 79 = .ok (.goto 22, 3) := by decide +kernel
theorem dL_asks_82 : decode cL_asks 82 = .ok (.iload_n 1, 1) := by decide +kernel
theorem dL_asks_83 : decode cL_asks 83 = .ok (.bipush 8, 2) := by decide +kernel
theorem dL_asks_85 : decode cL_asks 85 = .ok (.if_icmp .ne 10, 3) := by decide +kernel
theorem dL_asks_88 : decode cL_asks 88 = .ok (.aload_n 0, 1) := by decide +kernel
theorem dL_asks_89 : decode cL_asks 89 = .ok (.invokestatic 46, 3) := by decide +kernel
theorem dL_asks_92 : decode cL_asks 92 = .ok (.goto 9, 3) := by decide +kernel
theorem dL_asks_95 : decode cL_asks 95 = .ok (.aload_n 0, 1) := by decide +kernel
theorem dL_asks_96 : decode cL_asks 96 = .ok (.iload_n 2, 1) := by decide +kernel
theorem dL_asks_97 : decode cL_asks 97 = .ok (.iload_n 3, 1) := by decide +kernel
theorem dL_asks_98 : decode cL_asks 98 = .ok (.invokestatic 50, 3) := by decide +kernel
theorem dL_asks_101 : decode cL_asks 101 = .ok (.ireturn, 1) := by decide +kernel
theorem dL_asks_102 : decode cL_asks 102 = .ok (.astore 5, 2) := by decide +kernel
theorem dL_asks_104 : decode cL_asks 104 = .ok (.bipush (-9), 2) := by decide +kernel
theorem dL_asks_106 : decode cL_asks 106 = .ok (.ireturn, 1) := by decide +kernel
theorem dL_asks_107 : decode cL_asks 107 = .ok (.astore 5, 2) := by decide +kernel
theorem dL_asks_109 : decode cL_asks 109 = .ok (.bipush (-8), 2) := by decide +kernel
theorem dL_asks_111 : decode cL_asks 111 = .ok (.ireturn, 1) := by decide +kernel
theorem dL_asks_112 : decode cL_asks 112 = .ok (.astore 5, 2) := by decide +kernel
theorem dL_asks_114 : decode cL_asks 114 = .ok (.bipush (-10), 2) := by decide +kernel
theorem dL_asks_116 : decode cL_asks 116 = .ok (.ireturn, 1) := by decide +kernel
theorem dL_undoes_0 : decode cL_undoes 0 = .ok (.aload_n 0, 1) := by decide +kernel
theorem dL_undoes_1 : decode cL_undoes 1 = .ok (.invokevirtual 60, 3) := by decide +kernel
theorem dL_undoes_4 : decode cL_undoes 4 = .ok (.iconst 0, 1) := by decide +kernel
theorem dL_undoes_5 : decode cL_undoes 5 = .ok (.ireturn, 1) := by decide +kernel
theorem dL_starts_0 : decode cL_starts 0 = .ok (.aload_n 0, 1) := by decide +kernel
theorem dL_starts_1 : decode cL_starts 1 = .ok (.iload_n 1, 1) := by decide +kernel
theorem dL_starts_2 : decode cL_starts 2 = .ok (.iload_n 2, 1) := by decide +kernel
theorem dL_starts_3 : decode cL_starts 3 = .ok (.invokevirtual 63, 3) := by decide +kernel
theorem dL_starts_6 : decode cL_starts 6 = .ok (.iconst 0, 1) := by decide +kernel
theorem dL_starts_7 : decode cL_starts 7 = .ok (.ireturn, 1) := by decide +kernel
theorem dL_altered_0 : decode cL_altered 0 = .ok (.iload_n 1, 1) := by decide +kernel
theorem dL_altered_1 : decode cL_altered 1 = .ok (.sipush 1000, 3) := by decide +kernel
theorem dL_altered_4 : decode cL_altered 4 = .ok (.idiv, 1) := by decide +kernel
theorem dL_altered_5 : decode cL_altered 5 = .ok (.istore_n 3, 1) := by decide +kernel
theorem dL_altered_6 : decode cL_altered 6 = .ok (.iload_n 1, 1) := by decide +kernel
theorem dL_altered_7 : decode cL_altered 7 = .ok (.sipush 1000, 3) := by decide +kernel
theorem dL_altered_10 : decode cL_altered 10 = .ok (.irem, 1) := by decide +kernel
theorem dL_altered_11 : decode cL_altered 11 = .ok (.istore 4, 2) := by decide +kernel
theorem dL_altered_13 : decode cL_altered 13 = .ok (.iload_n 1, 1) := by decide +kernel
theorem dL_altered_14 : decode cL_altered 14 = .ok (.ifCond .lt 18, 3) := by decide +kernel
theorem dL_altered_17 : decode cL_altered 17 = .ok (.aload_n 0, 1) := by decide +kernel
theorem dL_altered_18 : decode cL_altered 18 = .ok (.iconst 1, 1) := by decide +kernel
theorem dL_altered_19 : decode cL_altered 19 = .ok (.iaload, 1) := by decide +kernel
theorem dL_altered_20 : decode cL_altered 20 = .ok (.iconst 1, 1) := by decide +kernel
theorem dL_altered_21 : decode cL_altered 21 = .ok (.if_icmp .ne 13, 3) := by decide +kernel
theorem dL_altered_24 : decode cL_altered 24 = .ok (.iload 4, 2) := by decide +kernel
theorem dL_altered_26 : decode cL_altered 26 = .ok (.aload_n 0, 1) := by decide +kernel
theorem dL_altered_27 : decode cL_altered 27 = .ok (.iconst 2, 1) := by decide +kernel
theorem dL_altered_28 : decode cL_altered 28 = .ok (.iaload, 1) := by decide +kernel
theorem dL_altered_29 : decode cL_altered 29 = .ok (.if_icmp .le 5, 3) := by decide +kernel
theorem dL_altered_32 : decode cL_altered 32 = .ok (.iconst (-1), 1) := by decide +kernel
theorem dL_altered_33 : decode cL_altered 33 = .ok (.ireturn, 1) := by decide +kernel
theorem dL_altered_34 : decode cL_altered 34 = .ok (.iload 4, 2) := by decide +kernel
theorem dL_altered_36 : decode cL_altered 36 = .ok (.bipush 99, 2) := by decide +kernel
theorem dL_altered_38 : decode cL_altered 38 = .ok (.if_icmp .le 7, 3) := by decide +kernel
theorem dL_altered_41 : decode cL_altered 41 = .ok (.iconst 3, 1) := by decide +kernel
theorem dL_altered_42 : decode cL_altered 42 = .ok (.goto 15, 3) := by decide +kernel
theorem dL_altered_45 : decode cL_altered 45 = .ok (.iload 4, 2) := by decide +kernel
theorem dL_altered_47 : decode cL_altered 47 = .ok (.bipush 9, 2) := by decide +kernel
theorem dL_altered_49 : decode cL_altered 49 = .ok (.if_icmp .le 7, 3) := by decide +kernel
theorem dL_altered_52 : decode cL_altered 52 = .ok (.iconst 2, 1) := by decide +kernel
theorem dL_altered_53 : decode cL_altered 53 = .ok (.goto 4, 3) := by decide +kernel
theorem dL_altered_56 : decode cL_altered 56 = .ok (.iconst 1, 1) := by decide +kernel
theorem dL_altered_57 : decode cL_altered 57 = .ok (.istore 5, 2) := by decide +kernel
theorem dL_altered_59 : decode cL_altered 59 = .ok (.iload_n 2, 1) := by decide +kernel
theorem dL_altered_60 : decode cL_altered 60 = .ok (.ifCond .ne 20, 3) := by decide +kernel
theorem dL_altered_63 : decode cL_altered 63 = .ok (.aload_n 0, 1) := by decide +kernel
theorem dL_altered_64 : decode cL_altered 64 = .ok (.iconst 1, 1) := by decide +kernel
theorem dL_altered_65 : decode cL_altered 65 = .ok (.iaload, 1) := by decide +kernel
theorem dL_altered_66 : decode cL_altered 66 = .ok (.ifCond .ne 10, 3) := by decide +kernel
theorem dL_altered_69 : decode cL_altered 69 = .ok (.iload_n 3, 1) := by decide +kernel
theorem dL_altered_70 : decode cL_altered 70 = .ok (.bipush 100, 2) := by decide +kernel
theorem dL_altered_72 : decode cL_altered 72 = .ok (.idiv, 1) := by decide +kernel
theorem dL_altered_73 : decode cL_altered 73 = .ok (.goto 70, 3) := by decide +kernel
theorem dL_altered_76 : decode cL_altered 76 = .ok (.iload_n 3, 1) := by decide +kernel
theorem dL_altered_77 : decode cL_altered 77 = .ok (.goto 66, 3) := by decide +kernel
theorem dL_altered_80 : decode cL_altered 80 = .ok (.iload_n 2, 1) := by decide +kernel
theorem dL_altered_81 : decode cL_altered 81 = .ok (.iconst 1, 1) := by decide +kernel
theorem dL_altered_82 : decode cL_altered 82 = .ok (.if_icmp .ne 37, 3) := by decide +kernel
theorem dL_altered_85 : decode cL_altered 85 = .ok (.aload_n 0, 1) := by decide +kernel
theorem dL_altered_86 : decode cL_altered 86 = .ok (.iconst 1, 1) := by decide +kernel
theorem dL_altered_87 : decode cL_altered 87 = .ok (.iaload, 1) := by decide +kernel
end
section
theorem dL_altered_88 : decode cL_altered 88 = .ok (.ifCond .ne 10, 3) := by decide +kernel
theorem dL_altered_91 : decode cL_altered 91 = .ok (.iload_n 3, 1) := by decide +kernel
theorem dL_altered_92 : decode cL_altered 92 = .ok (.bipush 100, 2) := by decide +kernel
theorem dL_altered_94 : decode cL_altered 94 = .ok (.irem, 1) := by decide +kernel
theorem dL_altered_95 : decode cL_altered 95 = .ok (.goto 48, 3) := by decide +kernel
theorem dL_altered_98 : decode cL_altered 98 = .ok (.aload_n 0, 1) := by decide +kernel
theorem dL_altered_99 : decode cL_altered 99 = .ok (.iconst 1, 1) := by decide +kernel
theorem dL_altered_100 : decode cL_altered 100 = .ok (.iaload, 1) := by decide +kernel
theorem dL_altered_101 : decode cL_altered 101 = .ok (.iconst 1, 1) := by decide +kernel
theorem dL_altered_102 : decode cL_altered 102 = .ok (.if_icmp .ne 8, 3) := by decide +kernel
theorem dL_altered_105 : decode cL_altered 105 = .ok (.iload 4, 2) := by decide +kernel
theorem dL_altered_107 : decode cL_altered 107 = .ok (.goto 36, 3) := by decide +kernel
theorem dL_altered_110 : decode cL_altered 110 = .ok (.iload 4, 2) := by decide +kernel
theorem dL_altered_112 : decode cL_altered 112 = .ok (.aload_n 0, 1) := by decide +kernel
theorem dL_altered_113 : decode cL_altered 113 = .ok (.iconst 2, 1) := by decide +kernel
theorem dL_altered_114 : decode cL_altered 114 = .ok (.iaload, 1) := by decide +kernel
theorem dL_altered_115 : decode cL_altered 115 = .ok (.imul, 1) := by decide +kernel
theorem dL_altered_116 : decode cL_altered 116 = .ok (.goto 27, 3) := by decide +kernel
theorem dL_altered_119 : decode cL_altered 119 = .ok (.aload_n 0, 1) := by decide +kernel
theorem dL_altered_120 : decode cL_altered 120 = .ok (.iconst 1, 1) := by decide +kernel
theorem dL_altered_121 : decode cL_altered 121 = .ok (.iaload, 1) := by decide +kernel
theorem dL_altered_122 : decode cL_altered 122 = .ok (.ifCond .ne 8, 3) := by decide +kernel
theorem dL_altered_125 : decode cL_altered 125 = .ok (.iload 4, 2) := by decide +kernel
theorem dL_altered_127 : decode cL_altered 127 = .ok (.goto 16, 3) := by decide +kernel
theorem dL_altered_130 : decode cL_altered 130 = .ok (.aload_n 0, 1) := by decide +kernel
theorem dL_altered_131 : decode cL_altered 131 = .ok (.iconst 1, 1) := by decide +kernel
theorem dL_altered_132 : decode cL_altered 132 = .ok (.iaload, 1) := by decide +kernel
theorem dL_altered_133 : decode cL_altered 133 = .ok (.iconst 1, 1) := by decide +kernel
theorem dL_altered_134 : decode cL_altered 134 = .ok (.if_icmp .ne 7, 3) := by decide +kernel
theorem dL_altered_137 : decode cL_altered 137 = .ok (.iconst 0, 1) := by decide +kernel
theorem dL_altered_138 : decode cL_altered 138 = .ok (.goto 5, 3) := by decide +kernel
theorem dL_altered_141 : decode cL_altered 141 = .ok (.iload 5, 2) := by decide +kernel
theorem dL_altered_143 : decode cL_altered 143 = .ok (.ireturn, 1) := by decide +kernel
theorem dL_isEven_0 : decode cL_isEven 0 = .ok (.iconst 1, 1) := by decide +kernel
theorem dL_isEven_1 : decode cL_isEven 1 = .ok (.istore 4, 2) := by decide +kernel
theorem dL_isEven_3 : decode cL_isEven 3 = .ok (.iconst 0, 1) := by decide +kernel
theorem dL_isEven_4 : decode cL_isEven 4 = .ok (.istore 5, 2) := by decide +kernel
theorem dL_isEven_6 : decode cL_isEven 6 = .ok (.iload 5, 2) := by decide +kernel
theorem dL_isEven_8 : decode cL_isEven 8 = .ok (.iconst 3, 1) := by decide +kernel
theorem dL_isEven_9 : decode cL_isEven 9 = .ok (.if_icmp .ge 40, 3) := by decide +kernel
theorem dL_isEven_12 : decode cL_isEven 12 = .ok (.iload 4, 2) := by decide +kernel
theorem dL_isEven_14 : decode cL_isEven 14 = .ok (.ifCond .eq 26, 3) := by decide +kernel
theorem dL_isEven_17 : decode cL_isEven 17 = .ok (.aload_n 0, 1) := by decide +kernel
theorem dL_isEven_18 : decode cL_isEven 18 = .ok (.iload_n 3, 1) := by decide +kernel
theorem dL_isEven_19 : decode cL_isEven 19 = .ok (.iload 5, 2) := by decide +kernel
theorem dL_isEven_21 : decode cL_isEven 21 = .ok (.invokevirtual 66, 3) := by decide +kernel
theorem dL_isEven_24 : decode cL_isEven 24 = .ok (.aload_n 2, 1) := by decide +kernel
theorem dL_isEven_25 : decode cL_isEven 25 = .ok (.aload_n 1, 1) := by decide +kernel
theorem dL_isEven_26 : decode cL_isEven 26 = .ok (.iload_n 3, 1) := by decide +kernel
theorem dL_isEven_27 : decode cL_isEven 27 = .ok (.iaload, 1) := by decide +kernel
theorem dL_isEven_28 : decode cL_isEven 28 = .ok (.iload 5, 2) := by decide +kernel
theorem dL_isEven_30 : decode cL_isEven 30 = .ok (.invokestatic 70, 3) := by decide +kernel
theorem dL_isEven_33 : decode cL_isEven 33 = .ok (.if_icmp .ne 7, 3) := by decide +kernel
theorem dL_isEven_36 : decode cL_isEven 36 = .ok (.iconst 1, 1) := by decide +kernel
theorem dL_isEven_37 : decode cL_isEven 37 = .ok (.goto 4, 3) := by decide +kernel
theorem dL_isEven_40 : decode cL_isEven 40 = .ok (.iconst 0, 1) := by decide +kernel
theorem dL_isEven_41 : decode cL_isEven 41 = .ok (.istore 4, 2) := by decide +kernel
theorem dL_isEven_43 : decode cL_isEven 43 = .ok (.iinc 5 1, 3) := by decide +kernel
theorem dL_isEven_46 : decode cL_isEven 46 = .ok (.goto (-40), 3) := by decide +kernel
theorem dL_isEven_49 : decode cL_isEven 49 = .ok (.iload 4, 2) := by decide +kernel
theorem dL_isEven_51 : decode cL_isEven 51 = .ok (.ireturn, 1) := by decide +kernel
theorem dL_isSeen_0 : decode cL_isSeen 0 = .ok (.aload_n 1, 1) := by decide +kernel
theorem dL_isSeen_1 : decode cL_isSeen 1 = .ok (.iload_n 3, 1) := by decide +kernel
theorem dL_isSeen_2 : decode cL_isSeen 2 = .ok (.iaload, 1) := by decide +kernel
theorem dL_isSeen_3 : decode cL_isSeen 3 = .ok (.ifCond .lt 23, 3) := by decide +kernel
theorem dL_isSeen_6 : decode cL_isSeen 6 = .ok (.aload_n 2, 1) := by decide +kernel
theorem dL_isSeen_7 : decode cL_isSeen 7 = .ok (.iconst 0, 1) := by decide +kernel
theorem dL_isSeen_8 : decode cL_isSeen 8 = .ok (.iaload, 1) := by decide +kernel
theorem dL_isSeen_9 : decode cL_isSeen 9 = .ok (.iconst 2, 1) := by decide +kernel
theorem dL_isSeen_10 : decode cL_isSeen 10 = .ok (.if_icmp .ne 12, 3) := by decide +kernel
theorem dL_isSeen_13 : decode cL_isSeen 13 = .ok (.aload_n 0, 1) := by decide +kernel
theorem dL_isSeen_14 : decode cL_isSeen 14 = .ok (.iload_n 3, 1) := by decide +kernel
theorem dL_isSeen_15 : decode cL_isSeen 15 = .ok (.iconst 0, 1) := by decide +kernel
theorem dL_isSeen_16 : decode cL_isSeen 16 = .ok (.invokevirtual 66, 3) := by decide +kernel
theorem dL_isSeen_19 : decode cL_isSeen 19 = .ok (.ifCond .lt 7, 3) := by decide +kernel
theorem dL_isSeen_22 : decode cL_isSeen 22 = .ok (.iconst 1, 1) := by decide +kernel
theorem dL_isSeen_23 : decode cL_isSeen 23 = .ok (.goto 4, 3) := by decide +kernel
theorem dL_isSeen_26 : decode cL_isSeen 26 = .ok (.iconst 0, 1) := by decide +kernel
theorem dL_isSeen_27 : decode cL_isSeen 27 = .ok (.ireturn, 1) := by decide +kernel
theorem dL_isTold_0 : decode cL_isTold 0 = .ok (.iconst 0, 1) := by decide +kernel
theorem dL_isTold_1 : decode cL_isTold 1 = .ok (.istore_n 3, 1) := by decide +kernel
theorem dL_isTold_2 : decode cL_isTold 2 = .ok (.iconst 0, 1) := by decide +kernel
theorem dL_isTold_3 : decode cL_isTold 3 = .ok (.istore 4, 2) := by decide +kernel
theorem dL_isTold_5 : decode cL_isTold 5 = .ok (.iconst 0, 1) := by decide +kernel
theorem dL_isTold_6 : decode cL_isTold 6 = .ok (.istore 5, 2) := by decide +kernel
theorem dL_isTold_8 : decode cL_isTold 8 = .ok (.bipush 6, 2) := by decide +kernel
theorem dL_isTold_10 : decode cL_isTold 10 = .ok (.newarray .int, 2) := by decide +kernel
theorem dL_isTold_12 : decode cL_isTold 12 = .ok (.astore 6, 2) := by decide +kernel
theorem dL_isTold_14 : decode cL_isTold 14 = .ok (.aload_n 0, 1) := by decide +kernel
theorem dL_isTold_15 : decode cL_isTold 15 = .ok (.invokevirtual 74, 3) := by decide +kernel
theorem dL_isTold_18 : decode cL_isTold 18 = .ok (.aload_n 2, 1) := by decide +kernel
theorem dL_isTold_19 : decode cL_isTold 19 = .ok (.iconst 0, 1) := by decide +kernel
theorem dL_isTold_20 : decode cL_isTold 20 = .ok (.iaload, 1) := by decide +kernel
theorem dL_isTold_21 : decode cL_isTold 21 = .ok (.if_icmp .ne 38, 3) := by decide +kernel
theorem dL_isTold_24 : decode cL_isTold 24 = .ok (.aload_n 0, 1) := by decide +kernel
theorem dL_isTold_25 : decode cL_isTold 25 = .ok (.invokevirtual 77, 3) := by decide +kernel
theorem dL_isTold_28 : decode cL_isTold 28 = .ok (.aload_n 2, 1) := by decide +kernel
theorem dL_isTold_29 : decode cL_isTold 29 = .ok (.iconst 0, 1) := by decide +kernel
theorem dL_isTold_30 : decode cL_isTold 30 = .ok (.iaload, 1) := by decide +kernel
theorem dL_isTold_31 : decode cL_isTold 31 = .ok (.ifCond .ne 7, 3) := by decide +kernel
theorem dL_isTold_34 : decode cL_isTold 34 = .ok (.iconst (-1), 1) := by decide +kernel
theorem dL_isTold_35 : decode cL_isTold 35 = .ok (.goto 6, 3) := by decide +kernel
theorem dL_isTold_38 : decode cL_isTold 38 = .ok (.aload_n 2, 1) := by decide +kernel
theorem dL_isTold_39 : decode cL_isTold 39 = .ok (.iconst 5, 1) := by decide +kernel
theorem dL_isTold_40 : decode cL_isTold 40 = .ok (.iaload, 1) := by decide +kernel
theorem dL_isTold_41 : decode cL_isTold 41 = .ok (.if_icmp .ne 18, 3) := by decide +kernel
theorem dL_isTold_44 : decode cL_isTold 44 = .ok (.aload_n 0, 1) := by decide +kernel
theorem dL_isTold_45 : decode cL_isTold 45 = .ok (.invokevirtual 80, 3) := by decide +kernel
theorem dL_isTold_48 : decode cL_isTold 48 = .ok (.aload_n 2, 1) := by decide +kernel
theorem dL_isTold_49 : decode cL_isTold 49 = .ok (.bipush 6, 2) := by decide +kernel
theorem dL_isTold_51 : decode cL_isTold 51 = .ok (.iaload, 1) := by decide +kernel
theorem dL_isTold_52 : decode cL_isTold 52 = .ok (.if_icmp .ne 7, 3) := by decide +kernel
theorem dL_isTold_55 : decode cL_isTold 55 = .ok (.iconst 1, 1) := by decide +kernel
theorem dL_isTold_56 : decode cL_isTold 56 = .ok (.goto 4, 3) := by decide +kernel
theorem dL_isTold_59 : decode cL_isTold 59 = .ok (.iconst 0, 1) := by decide +kernel
theorem dL_isTold_60 : decode cL_isTold 60 = .ok (.istore 7, 2) := by decide +kernel
theorem dL_isTold_62 : decode cL_isTold 62 = .ok (.iconst 0, 1) := by decide +kernel
theorem dL_isTold_63 : decode cL_isTold 63 = .ok (.istore 8, 2) := by decide +kernel
theorem dL_isTold_65 : decode cL_isTold 65 = .ok (.iload 8, 2) := by decide +kernel
theorem dL_isTold_67 : decode cL_isTold 67 = .ok (.bipush 40, 2) := by decide +kernel
theorem dL_isTold_69 : decode cL_isTold 69 = .ok (.if_icmp .ge 320, 3) := by decide +kernel
theorem dL_isTold_72 : decode cL_isTold 72 = .ok (.iload 7, 2) := by decide +kernel
theorem dL_isTold_74 : decode cL_isTold 74 = .ok (.ifCond .eq 315, 3) := by decide +kernel
theorem dL_isTold_77 : decode cL_isTold 77 = .ok (.aload_n 0, 1) := by decide +kernel
theorem dL_isTold_78 : decode cL_isTold 78 = .ok (.aload_n 1, 1) := by decide +kernel
theorem dL_isTold_79 : decode cL_isTold 79 = .ok (.aload_n 2, 1) := by decide +kernel
theorem dL_isTold_80 : decode cL_isTold 80 = .ok (.iload 8, 2) := by decide +kernel
theorem dL_isTold_82 : decode cL_isTold 82 = .ok (.invokestatic 83, 3) := by decide +kernel
theorem dL_isTold_85 : decode cL_isTold 85 = .ok (.istore 9, 2) := by decide +kernel
theorem dL_isTold_87 : decode cL_isTold 87 = .ok (.aload_n 0, 1) := by decide +kernel
theorem dL_isTold_88 : decode cL_isTold 88 = .ok (.iload 8, 2) := by decide +kernel
theorem dL_isTold_90 : decode cL_isTold 90 = .ok (.iconst 0, 1) := by decide +kernel
theorem dL_isTold_91 : decode cL_isTold 91 = .ok (.invokevirtual 66, 3) := by decide +kernel
theorem dL_isTold_94 : decode cL_isTold 94 = .ok (.ifCond .lt 7, 3) := by decide +kernel
theorem dL_isTold_97 : decode cL_isTold 97 = .ok (.iconst 1, 1) := by decide +kernel
theorem dL_isTold_98 : decode cL_isTold 98 = .ok (.goto 4, 3) := by decide +kernel
theorem dL_isTold_101 : decode cL_isTold 101 = .ok (.iconst 0, 1) := by decide +kernel
theorem dL_isTold_102 : decode cL_isTold 102 = .ok (.istore 10, 2) := by decide +kernel
theorem dL_isTold_104 : decode cL_isTold 104 = .ok (.iload_n 3, 1) := by decide +kernel
theorem dL_isTold_105 : decode cL_isTold 105 = .ok (.iload 9, 2) := by decide +kernel
theorem dL_isTold_107 : decode cL_isTold 107 = .ok (.ifCond .eq 7, 3) := by decide +kernel
theorem dL_isTold_110 : decode cL_isTold 110 = .ok (.iconst 1, 1) := by decide +kernel
theorem dL_isTold_111 : decode cL_isTold 111 = .ok (.goto 4, 3) := by decide +kernel
theorem dL_isTold_114 : decode cL_isTold 114 = .ok (.iconst 0, 1) := by decide +kernel
theorem dL_isTold_115 : decode cL_isTold 115 = .ok (.iadd, 1) := by decide +kernel
theorem dL_isTold_116 : decode cL_isTold 116 = .ok (.istore_n 3, 1) := by decide +kernel
theorem dL_isTold_117 : decode cL_isTold 117 = .ok (.iload 4, 2) := by decide +kernel
theorem dL_isTold_119 : decode cL_isTold 119 = .ok (.iload 10, 2) := by decide +kernel
theorem dL_isTold_121 : decode cL_isTold 121 = .ok (.ifCond .eq 7, 3) := by decide +kernel
theorem dL_isTold_124 : decode cL_isTold 124 = .ok (.iconst 1, 1) := by decide +kernel
theorem dL_isTold_125 : decode cL_isTold 125 = .ok (.goto 4, 3) := by decide +kernel
theorem dL_isTold_128 : decode cL_isTold 128 = .ok (.iconst 0, 1) := by decide +kernel
theorem dL_isTold_129 : decode cL_isTold 129 = .ok (.iadd, 1) := by decide +kernel
theorem dL_isTold_130 : decode cL_isTold 130 = .ok (.istore 4, 2) := by decide +kernel
theorem dL_isTold_132 : decode cL_isTold 132 = .ok (.iload 5, 2) := by decide +kernel
theorem dL_isTold_134 : decode cL_isTold 134 = .ok (.aload_n 2, 1) := by decide +kernel
theorem dL_isTold_135 : decode cL_isTold 135 = .ok (.iconst 0, 1) := by decide +kernel
theorem dL_isTold_136 : decode cL_isTold 136 = .ok (.iaload, 1) := by decide +kernel
theorem dL_isTold_137 : decode cL_isTold 137 = .ok (.ifCond .eq 14, 3) := by decide +kernel
theorem dL_isTold_140 : decode cL_isTold 140 = .ok (.aload_n 0, 1) := by decide +kernel
theorem dL_isTold_141 : decode cL_isTold 141 = .ok (.aload_n 1, 1) := by decide +kernel
theorem dL_isTold_142 : decode cL_isTold 142 = .ok (.aload_n 2, 1) := by decide +kernel
theorem dL_isTold_143 : decode cL_isTold 143 = .ok (.iload 8, 2) := by decide +kernel
theorem dL_isTold_145 : decode cL_isTold 145 = .ok (.invokestatic 87, 3) := by decide +kernel
theorem dL_isTold_148 : decode cL_isTold 148 = .ok (.ifCond .eq 7, 3) := by decide +kernel
theorem dL_isTold_151 : decode cL_isTold 151 = .ok (.iconst 0, 1) := by decide +kernel
theorem dL_isTold_152 : decode cL_isTold 152 = .ok (.goto 4, 3) := by decide +kernel
theorem dL_isTold_155 : decode cL_isTold 155 = .ok (.iconst 1, 1) := by decide +kernel
theorem dL_isTold_156 : decode cL_isTold 156 = .ok (.iadd, 1) := by decide +kernel
theorem dL_isTold_157 : decode cL_isTold 157 = .ok (.istore 5, 2) := by decide +kernel
end
section
theorem dL_isTold_159 : decode cL_isTold 159 = .ok (.iconst 0, 1) := by decide +kernel
theorem dL_isTold_160 : decode cL_isTold 160 = .ok (.istore 11, 2) := by decide +kernel
theorem dL_isTold_162 : decode cL_isTold 162 = .ok (.iload 11, 2) := by decide +kernel
theorem dL_isTold_164 : decode cL_isTold 164 = .ok (.iconst 3, 1) := by decide +kernel
theorem dL_isTold_165 : decode cL_isTold 165 = .ok (.if_icmp .ge 106, 3) := by decide +kernel
theorem dL_isTold_168 : decode cL_isTold 168 = .ok (.aload_n 2, 1) := by decide +kernel
theorem dL_isTold_169 : decode cL_isTold 169 = .ok (.aload_n 1, 1) := by decide +kernel
theorem dL_isTold_170 : decode cL_isTold 170 = .ok (.iload 8, 2) := by decide +kernel
theorem dL_isTold_172 : decode cL_isTold 172 = .ok (.iaload, 1) := by decide +kernel
theorem dL_isTold_173 : decode cL_isTold 173 = .ok (.iload 11, 2) := by decide +kernel
theorem dL_isTold_175 : decode cL_isTold 175 = .ok (.invokestatic 70, 3) := by decide +kernel
theorem dL_isTold_178 : decode cL_isTold 178 = .ok (.istore 12, 2) := by decide +kernel
theorem dL_isTold_180 : decode cL_isTold 180 = .ok (.aload 6, 2) := by decide +kernel
theorem dL_isTold_182 : decode cL_isTold 182 = .ok (.iload 11, 2) := by decide +kernel
theorem dL_isTold_184 : decode cL_isTold 184 = .ok (.dup2, 1) := by decide +kernel
theorem dL_isTold_185 : decode cL_isTold 185 = .ok (.iaload, 1) := by decide +kernel
theorem dL_isTold_186 : decode cL_isTold 186 = .ok (.iload 10, 2) := by decide +kernel
theorem dL_isTold_188 : decode cL_isTold 188 = .ok (.ifCond .eq 14, 3) := by decide +kernel
theorem dL_isTold_191 : decode cL_isTold 191 = .ok (.aload_n 0, 1) := by decide +kernel
theorem dL_isTold_192 : decode cL_isTold 192 = .ok (.iload 8, 2) := by decide +kernel
theorem dL_isTold_194 : decode cL_isTold 194 = .ok (.iload 11, 2) := by decide +kernel
theorem dL_isTold_196 : decode cL_isTold 196 = .ok (.invokevirtual 66, 3) := by decide +kernel
theorem dL_isTold_199 : decode cL_isTold 199 = .ok (.goto 4, 3) := by decide +kernel
theorem dL_isTold_202 : decode cL_isTold 202 = .ok (.iconst 0, 1) := by decide +kernel
theorem dL_isTold_203 : decode cL_isTold 203 = .ok (.iadd, 1) := by decide +kernel
theorem dL_isTold_204 : decode cL_isTold 204 = .ok (.iastore, 1) := by decide +kernel
theorem dL_isTold_205 : decode cL_isTold 205 = .ok (.aload 6, 2) := by decide +kernel
theorem dL_isTold_207 : decode cL_isTold 207 = .ok (.iconst 3, 1) := by decide +kernel
theorem dL_isTold_208 : decode cL_isTold 208 = .ok (.iload 11, 2) := by decide +kernel
theorem dL_isTold_210 : decode cL_isTold 210 = .ok (.iadd, 1) := by decide +kernel
theorem dL_isTold_211 : decode cL_isTold 211 = .ok (.dup2, 1) := by decide +kernel
theorem dL_isTold_212 : decode cL_isTold 212 = .ok (.iaload, 1) := by decide +kernel
theorem dL_isTold_213 : decode cL_isTold 213 = .ok (.aload_n 2, 1) := by decide +kernel
theorem dL_isTold_214 : decode cL_isTold 214 = .ok (.iconst 0, 1) := by decide +kernel
theorem dL_isTold_215 : decode cL_isTold 215 = .ok (.iaload, 1) := by decide +kernel
theorem dL_isTold_216 : decode cL_isTold 216 = .ok (.ifCond .eq 8, 3) := by decide +kernel
theorem dL_isTold_219 : decode cL_isTold 219 = .ok (.iload 12, 2) := by decide +kernel
theorem dL_isTold_221 : decode cL_isTold 221 = .ok (.ifCond .ge 7, 3) := by decide +kernel
theorem dL_isTold_224 : decode cL_isTold 224 = .ok (.iconst 0, 1) := by decide +kernel
theorem dL_isTold_225 : decode cL_isTold 225 = .ok (.goto 5, 3) := by decide +kernel
theorem dL_isTold_228 : decode cL_isTold 228 = .ok (.iload 12, 2) := by decide +kernel
theorem dL_isTold_230 : decode cL_isTold 230 = .ok (.iadd, 1) := by decide +kernel
theorem dL_isTold_231 : decode cL_isTold 231 = .ok (.iastore, 1) := by decide +kernel
theorem dL_isTold_232 : decode cL_isTold 232 = .ok (.iload 7, 2) := by decide +kernel
theorem dL_isTold_234 : decode cL_isTold 234 = .ok (.ifCond .eq 28, 3) := by decide +kernel
theorem dL_isTold_237 : decode cL_isTold 237 = .ok (.aload_n 0, 1) := by decide +kernel
theorem dL_isTold_238 : decode cL_isTold 238 = .ok (.iload 8, 2) := by decide +kernel
theorem dL_isTold_240 : decode cL_isTold 240 = .ok (.iload 11, 2) := by decide +kernel
theorem dL_isTold_242 : decode cL_isTold 242 = .ok (.invokevirtual 66, 3) := by decide +kernel
theorem dL_isTold_245 : decode cL_isTold 245 = .ok (.ifCond .lt 7, 3) := by decide +kernel
theorem dL_isTold_248 : decode cL_isTold 248 = .ok (.iconst 1, 1) := by decide +kernel
theorem dL_isTold_249 : decode cL_isTold 249 = .ok (.goto 4, 3) := by decide +kernel
theorem dL_isTold_252 : decode cL_isTold 252 = .ok (.iconst 0, 1) := by decide +kernel
theorem dL_isTold_253 : decode cL_isTold 253 = .ok (.iload 10, 2) := by decide +kernel
theorem dL_isTold_255 : decode cL_isTold 255 = .ok (.if_icmp .ne 7, 3) := by decide +kernel
theorem dL_isTold_258 : decode cL_isTold 258 = .ok (.iconst 1, 1) := by decide +kernel
theorem dL_isTold_259 : decode cL_isTold 259 = .ok (.goto 4, 3) := by decide +kernel
theorem dL_isTold_262 : decode cL_isTold 262 = .ok (.iconst 0, 1) := by decide +kernel
theorem dL_isTold_263 : decode cL_isTold 263 = .ok (.istore 7, 2) := by decide +kernel
theorem dL_isTold_265 : decode cL_isTold 265 = .ok (.iinc 11 1, 3) := by decide +kernel
theorem dL_isTold_268 : decode cL_isTold 268 = .ok (.goto (-106), 3) := by decide +kernel
theorem dL_isTold_271 : decode cL_isTold 271 = .ok (.iload 7, 2) := by decide +kernel
theorem dL_isTold_273 : decode cL_isTold 273 = .ok (.ifCond .eq 107, 3) := by decide +kernel
theorem dL_isTold_276 : decode cL_isTold 276 = .ok (.aload_n 0, 1) := by decide +kernel
theorem dL_isTold_277 : decode cL_isTold 277 = .ok (.iload 8, 2) := by decide +kernel
theorem dL_isTold_279 : decode cL_isTold 279 = .ok (.invokevirtual 90, 3) := by decide +kernel
theorem dL_isTold_282 : decode cL_isTold 282 = .ok (.iload 9, 2) := by decide +kernel
theorem dL_isTold_284 : decode cL_isTold 284 = .ok (.ifCond .eq 10, 3) := by decide +kernel
theorem dL_isTold_287 : decode cL_isTold 287 = .ok (.aload_n 1, 1) := by decide +kernel
theorem dL_isTold_288 : decode cL_isTold 288 = .ok (.iload 8, 2) := by decide +kernel
theorem dL_isTold_290 : decode cL_isTold 290 = .ok (.iaload, 1) := by decide +kernel
theorem dL_isTold_291 : decode cL_isTold 291 = .ok (.goto 4, 3) := by decide +kernel
theorem dL_isTold_294 : decode cL_isTold 294 = .ok (.iconst (-1), 1) := by decide +kernel
theorem dL_isTold_295 : decode cL_isTold 295 = .ok (.if_icmp .ne 85, 3) := by decide +kernel
theorem dL_isTold_298 : decode cL_isTold 298 = .ok (.aload_n 2, 1) := by decide +kernel
theorem dL_isTold_299 : decode cL_isTold 299 = .ok (.iconst 0, 1) := by decide +kernel
theorem dL_isTold_300 : decode cL_isTold 300 = .ok (.iaload, 1) := by decide +kernel
theorem dL_isTold_301 : decode cL_isTold 301 = .ok (.ifCond .gt 17, 3) := by decide +kernel
theorem dL_isTold_304 : decode cL_isTold 304 = .ok (.iload 10, 2) := by decide +kernel
theorem dL_isTold_306 : decode cL_isTold 306 = .ok (.ifCond .ne 74, 3) := by decide +kernel
theorem dL_isTold_309 : decode cL_isTold 309 = .ok (.aload_n 0, 1) := by decide +kernel
theorem dL_isTold_310 : decode cL_isTold 310 = .ok (.iload 8, 2) := by decide +kernel
theorem dL_isTold_312 : decode cL_isTold 312 = .ok (.invokevirtual 93, 3) := by decide +kernel
theorem dL_isTold_315 : decode cL_isTold 315 = .ok (.ifCond .ne 65, 3) := by decide +kernel
theorem dL_isTold_318 : decode cL_isTold 318 = .ok (.iload 10, 2) := by decide +kernel
theorem dL_isTold_320 : decode cL_isTold 320 = .ok (.ifCond .eq 12, 3) := by decide +kernel
theorem dL_isTold_323 : decode cL_isTold 323 = .ok (.aload_n 0, 1) := by decide +kernel
theorem dL_isTold_324 : decode cL_isTold 324 = .ok (.iload 8, 2) := by decide +kernel
theorem dL_isTold_326 : decode cL_isTold 326 = .ok (.invokevirtual 93, 3) := by decide +kernel
theorem dL_isTold_329 : decode cL_isTold 329 = .ok (.ifCond .ne 51, 3) := by decide +kernel
theorem dL_isTold_332 : decode cL_isTold 332 = .ok (.aload_n 2, 1) := by decide +kernel
theorem dL_isTold_333 : decode cL_isTold 333 = .ok (.iconst 0, 1) := by decide +kernel
theorem dL_isTold_334 : decode cL_isTold 334 = .ok (.iaload, 1) := by decide +kernel
theorem dL_isTold_335 : decode cL_isTold 335 = .ok (.iconst 2, 1) := by decide +kernel
theorem dL_isTold_336 : decode cL_isTold 336 = .ok (.if_icmp .ne 40, 3) := by decide +kernel
theorem dL_isTold_339 : decode cL_isTold 339 = .ok (.aload_n 0, 1) := by decide +kernel
theorem dL_isTold_340 : decode cL_isTold 340 = .ok (.aload_n 1, 1) := by decide +kernel
theorem dL_isTold_341 : decode cL_isTold 341 = .ok (.aload_n 2, 1) := by decide +kernel
theorem dL_isTold_342 : decode cL_isTold 342 = .ok (.iload 8, 2) := by decide +kernel
theorem dL_isTold_344 : decode cL_isTold 344 = .ok (.invokestatic 87, 3) := by decide +kernel
theorem dL_isTold_347 : decode cL_isTold 347 = .ok (.ifCond .eq 33, 3) := by decide +kernel
theorem dL_isTold_350 : decode cL_isTold 350 = .ok (.aload_n 0, 1) := by decide +kernel
theorem dL_isTold_351 : decode cL_isTold 351 = .ok (.iload 8, 2) := by decide +kernel
theorem dL_isTold_353 : decode cL_isTold 353 = .ok (.invokevirtual 93, 3) := by decide +kernel
theorem dL_isTold_356 : decode cL_isTold 356 = .ok (.aload_n 1, 1) := by decide +kernel
theorem dL_isTold_357 : decode cL_isTold 357 = .ok (.iload 8, 2) := by decide +kernel
theorem dL_isTold_359 : decode cL_isTold 359 = .ok (.iaload, 1) := by decide +kernel
theorem dL_isTold_360 : decode cL_isTold 360 = .ok (.ifCond .lt 12, 3) := by decide +kernel
theorem dL_isTold_363 : decode cL_isTold 363 = .ok (.iload 10, 2) := by decide +kernel
theorem dL_isTold_365 : decode cL_isTold 365 = .ok (.ifCond .ne 7, 3) := by decide +kernel
theorem dL_isTold_368 : decode cL_isTold 368 = .ok (.iconst 1, 1) := by decide +kernel
theorem dL_isTold_369 : decode cL_isTold 369 = .ok (.goto 4, 3) := by decide +kernel
theorem dL_isTold_372 : decode cL_isTold 372 = .ok (.iconst 0, 1) := by decide +kernel
theorem dL_isTold_373 : decode cL_isTold 373 = .ok (.if_icmp .ne 7, 3) := by decide +kernel
theorem dL_isTold_376 : decode cL_isTold 376 = .ok (.iconst 1, 1) := by decide +kernel
theorem dL_isTold_377 : decode cL_isTold 377 = .ok (.goto 4, 3) := by decide +kernel
theorem dL_isTold_380 : decode cL_isTold 380 = .ok (.iconst 0, 1) := by decide +kernel
theorem dL_isTold_381 : decode cL_isTold 381 = .ok (.istore 7, 2) := by decide +kernel
theorem dL_isTold_383 : decode cL_isTold 383 = .ok (.iinc 8 1, 3) := by decide +kernel
theorem dL_isTold_386 : decode cL_isTold 386 = .ok (.goto (-321), 3) := by decide +kernel
theorem dL_isTold_389 : decode cL_isTold 389 = .ok (.iconst 0, 1) := by decide +kernel
theorem dL_isTold_390 : decode cL_isTold 390 = .ok (.istore 8, 2) := by decide +kernel
theorem dL_isTold_392 : decode cL_isTold 392 = .ok (.iload 8, 2) := by decide +kernel
theorem dL_isTold_394 : decode cL_isTold 394 = .ok (.iconst 3, 1) := by decide +kernel
theorem dL_isTold_395 : decode cL_isTold 395 = .ok (.if_icmp .ge 51, 3) := by decide +kernel
theorem dL_isTold_398 : decode cL_isTold 398 = .ok (.iload 7, 2) := by decide +kernel
theorem dL_isTold_400 : decode cL_isTold 400 = .ok (.ifCond .eq 46, 3) := by decide +kernel
theorem dL_isTold_403 : decode cL_isTold 403 = .ok (.aload_n 0, 1) := by decide +kernel
theorem dL_isTold_404 : decode cL_isTold 404 = .ok (.iload 8, 2) := by decide +kernel
theorem dL_isTold_406 : decode cL_isTold 406 = .ok (.invokevirtual 97, 3) := by decide +kernel
theorem dL_isTold_409 : decode cL_isTold 409 = .ok (.aload 6, 2) := by decide +kernel
theorem dL_isTold_411 : decode cL_isTold 411 = .ok (.iload 8, 2) := by decide +kernel
theorem dL_isTold_413 : decode cL_isTold 413 = .ok (.iaload, 1) := by decide +kernel
theorem dL_isTold_414 : decode cL_isTold 414 = .ok (.if_icmp .ne 23, 3) := by decide +kernel
theorem dL_isTold_417 : decode cL_isTold 417 = .ok (.aload_n 0, 1) := by decide +kernel
theorem dL_isTold_418 : decode cL_isTold 418 = .ok (.iload 8, 2) := by decide +kernel
theorem dL_isTold_420 : decode cL_isTold 420 = .ok (.invokevirtual 100, 3) := by decide +kernel
theorem dL_isTold_423 : decode cL_isTold 423 = .ok (.aload 6, 2) := by decide +kernel
theorem dL_isTold_425 : decode cL_isTold 425 = .ok (.iconst 3, 1) := by decide +kernel
theorem dL_isTold_426 : decode cL_isTold 426 = .ok (.iload 8, 2) := by decide +kernel
theorem dL_isTold_428 : decode cL_isTold 428 = .ok (.iadd, 1) := by decide +kernel
theorem dL_isTold_429 : decode cL_isTold 429 = .ok (.iaload, 1) := by decide +kernel
theorem dL_isTold_430 : decode cL_isTold 430 = .ok (.if_icmp .ne 7, 3) := by decide +kernel
theorem dL_isTold_433 : decode cL_isTold 433 = .ok (.iconst 1, 1) := by decide +kernel
theorem dL_isTold_434 : decode cL_isTold 434 = .ok (.goto 4, 3) := by decide +kernel
theorem dL_isTold_437 : decode cL_isTold 437 = .ok (.iconst 0, 1) := by decide +kernel
theorem dL_isTold_438 : decode cL_isTold 438 = .ok (.istore 7, 2) := by decide +kernel
theorem dL_isTold_440 : decode cL_isTold 440 = .ok (.iinc 8 1, 3) := by decide +kernel
theorem dL_isTold_443 : decode cL_isTold 443 = .ok (.goto (-51), 3) := by decide +kernel
theorem dL_isTold_446 : decode cL_isTold 446 = .ok (.iload 7, 2) := by decide +kernel
theorem dL_isTold_448 : decode cL_isTold 448 = .ok (.ifCond .eq 33, 3) := by decide +kernel
theorem dL_isTold_451 : decode cL_isTold 451 = .ok (.aload_n 0, 1) := by decide +kernel
theorem dL_isTold_452 : decode cL_isTold 452 = .ok (.invokevirtual 103, 3) := by decide +kernel
theorem dL_isTold_455 : decode cL_isTold 455 = .ok (.iload_n 3, 1) := by decide +kernel
theorem dL_isTold_456 : decode cL_isTold 456 = .ok (.if_icmp .ne 25, 3) := by decide +kernel
theorem dL_isTold_459 : decode cL_isTold 459 = .ok (.aload_n 0, 1) := by decide +kernel
theorem dL_isTold_460 : decode cL_isTold 460 = .ok (.invokevirtual 106, 3) := by decide +kernel
theorem dL_isTold_463 : decode cL_isTold 463 = .ok (.iload 4, 2) := by decide +kernel
theorem dL_isTold_465 : decode cL_isTold 465 = .ok (.if_icmp .ne 16, 3) := by decide +kernel
theorem dL_isTold_468 : decode cL_isTold 468 = .ok (.aload_n 0, 1) := by decide +kernel
theorem dL_isTold_469 : decode cL_isTold 469 = .ok (.invokevirtual 109, 3) := by decide +kernel
theorem dL_isTold_472 : decode cL_isTold 472 = .ok (.iload 5, 2) := by decide +kernel
theorem dL_isTold_474 : decode cL_isTold 474 = .ok (.if_icmp .ne 7, 3) := by decide +kernel
theorem dL_isTold_477 : decode cL_isTold 477 = .ok (.iconst 1, 1) := by decide +kernel
theorem dL_isTold_478 : decode cL_isTold 478 = .ok (.goto 4, 3) := by decide +kernel
theorem dL_isTold_481 : decode cL_isTold 481 = .ok (.iconst 0, 1) := by decide +kernel
theorem dL_isTold_482 : decode cL_isTold 482 = .ok (.ireturn, 1) := by decide +kernel
end
section
theorem dL_client_0 : decode cL_client 0 = .ok (.aload_n 0, 1) := by decide +kernel
theorem dL_client_1 : decode cL_client 1 = .ok (.aload 5, 2) := by decide +kernel
theorem dL_client_3 : decode cL_client 3 = .ok (.aload 6, 2) := by decide +kernel
theorem dL_client_5 : decode cL_client 5 = .ok (.iload_n 2, 1) := by decide +kernel
theorem dL_client_6 : decode cL_client 6 = .ok (.invokestatic 83, 3) := by decide +kernel
theorem dL_client_9 : decode cL_client 9 = .ok (.istore 7, 2) := by decide +kernel
theorem dL_client_11 : decode cL_client 11 = .ok (.aload 6, 2) := by decide +kernel
theorem dL_client_13 : decode cL_client 13 = .ok (.iconst 0, 1) := by decide +kernel
theorem dL_client_14 : decode cL_client 14 = .ok (.iaload, 1) := by decide +kernel
theorem dL_client_15 : decode cL_client 15 = .ok (.iconst 2, 1) := by decide +kernel
theorem dL_client_16 : decode cL_client 16 = .ok (.if_icmp .ne 20, 3) := by decide +kernel
theorem dL_client_19 : decode cL_client 19 = .ok (.aload 6, 2) := by decide +kernel
theorem dL_client_21 : decode cL_client 21 = .ok (.sipush 1000, 3) := by decide +kernel
theorem dL_client_24 : decode cL_client 24 = .ok (.iload_n 3, 1) := by decide +kernel
theorem dL_client_25 : decode cL_client 25 = .ok (.imul, 1) := by decide +kernel
theorem dL_client_26 : decode cL_client 26 = .ok (.iload 4, 2) := by decide +kernel
theorem dL_client_28 : decode cL_client 28 = .ok (.iadd, 1) := by decide +kernel
theorem dL_client_29 : decode cL_client 29 = .ok (.iconst 0, 1) := by decide +kernel
theorem dL_client_30 : decode cL_client 30 = .ok (.invokestatic 70, 3) := by decide +kernel
theorem dL_client_33 : decode cL_client 33 = .ok (.ifCond .lt 7, 3) := by decide +kernel
theorem dL_client_36 : decode cL_client 36 = .ok (.iconst 1, 1) := by decide +kernel
theorem dL_client_37 : decode cL_client 37 = .ok (.goto 4, 3) := by decide +kernel
theorem dL_client_40 : decode cL_client 40 = .ok (.iconst 0, 1) := by decide +kernel
theorem dL_client_41 : decode cL_client 41 = .ok (.istore 8, 2) := by decide +kernel
theorem dL_client_43 : decode cL_client 43 = .ok (.aload_n 0, 1) := by decide +kernel
theorem dL_client_44 : decode cL_client 44 = .ok (.invokevirtual 106, 3) := by decide +kernel
theorem dL_client_47 : decode cL_client 47 = .ok (.istore 9, 2) := by decide +kernel
theorem dL_client_49 : decode cL_client 49 = .ok (.aload_n 0, 1) := by decide +kernel
theorem dL_client_50 : decode cL_client 50 = .ok (.invokevirtual 109, 3) := by decide +kernel
theorem dL_client_53 : decode cL_client 53 = .ok (.istore 10, 2) := by decide +kernel
theorem dL_client_55 : decode cL_client 55 = .ok (.iload_n 1, 1) := by decide +kernel
theorem dL_client_56 : decode cL_client 56 = .ok (.iconst 2, 1) := by decide +kernel
theorem dL_client_57 : decode cL_client 57 = .ok (.if_icmp .ne 142, 3) := by decide +kernel
theorem dL_client_60 : decode cL_client 60 = .ok (.iload_n 3, 1) := by decide +kernel
theorem dL_client_61 : decode cL_client 61 = .ok (.bipush 40, 2) := by decide +kernel
theorem dL_client_63 : decode cL_client 63 = .ok (.irem, 1) := by decide +kernel
theorem dL_client_64 : decode cL_client 64 = .ok (.istore 11, 2) := by decide +kernel
theorem dL_client_66 : decode cL_client 66 = .ok (.aload_n 0, 1) := by decide +kernel
theorem dL_client_67 : decode cL_client 67 = .ok (.aload 5, 2) := by decide +kernel
theorem dL_client_69 : decode cL_client 69 = .ok (.aload 6, 2) := by decide +kernel
theorem dL_client_71 : decode cL_client 71 = .ok (.iload 11, 2) := by decide +kernel
theorem dL_client_73 : decode cL_client 73 = .ok (.invokestatic 83, 3) := by decide +kernel
theorem dL_client_76 : decode cL_client 76 = .ok (.istore 12, 2) := by decide +kernel
theorem dL_client_78 : decode cL_client 78 = .ok (.iload_n 2, 1) := by decide +kernel
theorem dL_client_79 : decode cL_client 79 = .ok (.iload 11, 2) := by decide +kernel
theorem dL_client_81 : decode cL_client 81 = .ok (.if_icmp .ne 8, 3) := by decide +kernel
theorem dL_client_84 : decode cL_client 84 = .ok (.bipush (-9), 2) := by decide +kernel
theorem dL_client_86 : decode cL_client 86 = .ok (.goto 24, 3) := by decide +kernel
theorem dL_client_89 : decode cL_client 89 = .ok (.iload 7, 2) := by decide +kernel
theorem dL_client_91 : decode cL_client 91 = .ok (.ifCond .ne 8, 3) := by decide +kernel
theorem dL_client_94 : decode cL_client 94 = .ok (.bipush (-10), 2) := by decide +kernel
theorem dL_client_96 : decode cL_client 96 = .ok (.goto 14, 3) := by decide +kernel
theorem dL_client_99 : decode cL_client 99 = .ok (.iload 12, 2) := by decide +kernel
theorem dL_client_101 : decode cL_client 101 = .ok (.ifCond .eq 8, 3) := by decide +kernel
theorem dL_client_104 : decode cL_client 104 = .ok (.bipush (-8), 2) := by decide +kernel
theorem dL_client_106 : decode cL_client 106 = .ok (.goto 4, 3) := by decide +kernel
theorem dL_client_109 : decode cL_client 109 = .ok (.iconst 0, 1) := by decide +kernel
theorem dL_client_110 : decode cL_client 110 = .ok (.istore 13, 2) := by decide +kernel
theorem dL_client_112 : decode cL_client 112 = .ok (.aload_n 0, 1) := by decide +kernel
theorem dL_client_113 : decode cL_client 113 = .ok (.iconst 2, 1) := by decide +kernel
theorem dL_client_114 : decode cL_client 114 = .ok (.iload_n 2, 1) := by decide +kernel
theorem dL_client_115 : decode cL_client 115 = .ok (.iload 11, 2) := by decide +kernel
theorem dL_client_117 : decode cL_client 117 = .ok (.iconst 0, 1) := by decide +kernel
theorem dL_client_118 : decode cL_client 118 = .ok (.invokestatic 112, 3) := by decide +kernel
theorem dL_client_121 : decode cL_client 121 = .ok (.istore 14, 2) := by decide +kernel
theorem dL_client_123 : decode cL_client 123 = .ok (.iload 13, 2) := by decide +kernel
theorem dL_client_125 : decode cL_client 125 = .ok (.ifCond .ne 38, 3) := by decide +kernel
theorem dL_client_128 : decode cL_client 128 = .ok (.aload 5, 2) := by decide +kernel
theorem dL_client_130 : decode cL_client 130 = .ok (.iload 11, 2) := by decide +kernel
theorem dL_client_132 : decode cL_client 132 = .ok (.aload 5, 2) := by decide +kernel
theorem dL_client_134 : decode cL_client 134 = .ok (.iload_n 2, 1) := by decide +kernel
theorem dL_client_135 : decode cL_client 135 = .ok (.iaload, 1) := by decide +kernel
theorem dL_client_136 : decode cL_client 136 = .ok (.iastore, 1) := by decide +kernel
theorem dL_client_137 : decode cL_client 137 = .ok (.aload 5, 2) := by decide +kernel
theorem dL_client_139 : decode cL_client 139 = .ok (.iload_n 2, 1) := by decide +kernel
theorem dL_client_140 : decode cL_client 140 = .ok (.iconst (-1), 1) := by decide +kernel
theorem dL_client_141 : decode cL_client 141 = .ok (.iastore, 1) := by decide +kernel
theorem dL_client_142 : decode cL_client 142 = .ok (.aload 6, 2) := by decide +kernel
theorem dL_client_144 : decode cL_client 144 = .ok (.bipush 6, 2) := by decide +kernel
theorem dL_client_146 : decode cL_client 146 = .ok (.dup2, 1) := by decide +kernel
theorem dL_client_147 : decode cL_client 147 = .ok (.iaload, 1) := by decide +kernel
theorem dL_client_148 : decode cL_client 148 = .ok (.aload 6, 2) := by decide +kernel
theorem dL_client_150 : decode cL_client 150 = .ok (.iconst 0, 1) := by decide +kernel
theorem dL_client_151 : decode cL_client 151 = .ok (.iaload, 1) := by decide +kernel
theorem dL_client_152 : decode cL_client 152 = .ok (.iconst 1, 1) := by decide +kernel
theorem dL_client_153 : decode cL_client 153 = .ok (.if_icmp .ne 7, 3) := by decide +kernel
theorem dL_client_156 : decode cL_client 156 = .ok (.iconst 2, 1) := by decide +kernel
theorem dL_client_157 : decode cL_client 157 = .ok (.goto 4, 3) := by decide +kernel
theorem dL_client_160 : decode cL_client 160 = .ok (.iconst 0, 1) := by decide +kernel
theorem dL_client_161 : decode cL_client 161 = .ok (.iadd, 1) := by decide +kernel
theorem dL_client_162 : decode cL_client 162 = .ok (.iastore, 1) := by decide +kernel
theorem dL_client_163 : decode cL_client 163 = .ok (.iload 14, 2) := by decide +kernel
theorem dL_client_165 : decode cL_client 165 = .ok (.iload 13, 2) := by decide +kernel
theorem dL_client_167 : decode cL_client 167 = .ok (.if_icmp .ne 30, 3) := by decide +kernel
theorem dL_client_170 : decode cL_client 170 = .ok (.iload 13, 2) := by decide +kernel
theorem dL_client_172 : decode cL_client 172 = .ok (.ifCond .eq 12, 3) := by decide +kernel
theorem dL_client_175 : decode cL_client 175 = .ok (.aload_n 0, 1) := by decide +kernel
theorem dL_client_176 : decode cL_client 176 = .ok (.invokevirtual 109, 3) := by decide +kernel
theorem dL_client_179 : decode cL_client 179 = .ok (.iload 10, 2) := by decide +kernel
theorem dL_client_181 : decode cL_client 181 = .ok (.if_icmp .ne 16, 3) := by decide +kernel
theorem dL_client_184 : decode cL_client 184 = .ok (.aload_n 0, 1) := by decide +kernel
theorem dL_client_185 : decode cL_client 185 = .ok (.invokevirtual 106, 3) := by decide +kernel
theorem dL_client_188 : decode cL_client 188 = .ok (.iload 9, 2) := by decide +kernel
theorem dL_client_190 : decode cL_client 190 = .ok (.if_icmp .ne 7, 3) := by decide +kernel
theorem dL_client_193 : decode cL_client 193 = .ok (.iconst 1, 1) := by decide +kernel
theorem dL_client_194 : decode cL_client 194 = .ok (.goto 4, 3) := by decide +kernel
theorem dL_client_197 : decode cL_client 197 = .ok (.iconst 0, 1) := by decide +kernel
theorem dL_client_198 : decode cL_client 198 = .ok (.ireturn, 1) := by decide +kernel
theorem dL_client_199 : decode cL_client 199 = .ok (.iload_n 1, 1) := by decide +kernel
theorem dL_client_200 : decode cL_client 200 = .ok (.iconst 3, 1) := by decide +kernel
theorem dL_client_201 : decode cL_client 201 = .ok (.if_icmp .ne 111, 3) := by decide +kernel
theorem dL_client_204 : decode cL_client 204 = .ok (.aload 5, 2) := by decide +kernel
theorem dL_client_206 : decode cL_client 206 = .ok (.iload_n 2, 1) := by decide +kernel
theorem dL_client_207 : decode cL_client 207 = .ok (.iaload, 1) := by decide +kernel
theorem dL_client_208 : decode cL_client 208 = .ok (.istore 11, 2) := by decide +kernel
theorem dL_client_210 : decode cL_client 210 = .ok (.aload_n 0, 1) := by decide +kernel
theorem dL_client_211 : decode cL_client 211 = .ok (.iconst 3, 1) := by decide +kernel
theorem dL_client_212 : decode cL_client 212 = .ok (.iload_n 2, 1) := by decide +kernel
theorem dL_client_213 : decode cL_client 213 = .ok (.iconst 0, 1) := by decide +kernel
theorem dL_client_214 : decode cL_client 214 = .ok (.iconst 0, 1) := by decide +kernel
theorem dL_client_215 : decode cL_client 215 = .ok (.invokestatic 112, 3) := by decide +kernel
theorem dL_client_218 : decode cL_client 218 = .ok (.istore 12, 2) := by decide +kernel
theorem dL_client_220 : decode cL_client 220 = .ok (.aload 5, 2) := by decide +kernel
theorem dL_client_222 : decode cL_client 222 = .ok (.iload_n 2, 1) := by decide +kernel
theorem dL_client_223 : decode cL_client 223 = .ok (.iload 7, 2) := by decide +kernel
theorem dL_client_225 : decode cL_client 225 = .ok (.ifCond .eq 7, 3) := by decide +kernel
theorem dL_client_228 : decode cL_client 228 = .ok (.iconst (-1), 1) := by decide +kernel
theorem dL_client_229 : decode cL_client 229 = .ok (.goto 5, 3) := by decide +kernel
theorem dL_client_232 : decode cL_client 232 = .ok (.iload 11, 2) := by decide +kernel
theorem dL_client_234 : decode cL_client 234 = .ok (.iastore, 1) := by decide +kernel
theorem dL_client_235 : decode cL_client 235 = .ok (.aload 6, 2) := by decide +kernel
theorem dL_client_237 : decode cL_client 237 = .ok (.bipush 6, 2) := by decide +kernel
theorem dL_client_239 : decode cL_client 239 = .ok (.dup2, 1) := by decide +kernel
theorem dL_client_240 : decode cL_client 240 = .ok (.iaload, 1) := by decide +kernel
theorem dL_client_241 : decode cL_client 241 = .ok (.iload 7, 2) := by decide +kernel
theorem dL_client_243 : decode cL_client 243 = .ok (.ifCond .eq 15, 3) := by decide +kernel
theorem dL_client_246 : decode cL_client 246 = .ok (.aload 6, 2) := by decide +kernel
theorem dL_client_248 : decode cL_client 248 = .ok (.iconst 0, 1) := by decide +kernel
theorem dL_client_249 : decode cL_client 249 = .ok (.iaload, 1) := by decide +kernel
theorem dL_client_250 : decode cL_client 250 = .ok (.iconst 1, 1) := by decide +kernel
theorem dL_client_251 : decode cL_client 251 = .ok (.if_icmp .ne 7, 3) := by decide +kernel
theorem dL_client_254 : decode cL_client 254 = .ok (.iconst 1, 1) := by decide +kernel
theorem dL_client_255 : decode cL_client 255 = .ok (.goto 4, 3) := by decide +kernel
theorem dL_client_258 : decode cL_client 258 = .ok (.iconst 0, 1) := by decide +kernel
theorem dL_client_259 : decode cL_client 259 = .ok (.iadd, 1) := by decide +kernel
theorem dL_client_260 : decode cL_client 260 = .ok (.iastore, 1) := by decide +kernel
theorem dL_client_261 : decode cL_client 261 = .ok (.iload 12, 2) := by decide +kernel
theorem dL_client_263 : decode cL_client 263 = .ok (.iload 7, 2) := by decide +kernel
theorem dL_client_265 : decode cL_client 265 = .ok (.ifCond .eq 8, 3) := by decide +kernel
theorem dL_client_268 : decode cL_client 268 = .ok (.iload 11, 2) := by decide +kernel
theorem dL_client_270 : decode cL_client 270 = .ok (.goto 5, 3) := by decide +kernel
theorem dL_client_273 : decode cL_client 273 = .ok (.bipush (-10), 2) := by decide +kernel
theorem dL_client_275 : decode cL_client 275 = .ok (.if_icmp .ne 35, 3) := by decide +kernel
theorem dL_client_278 : decode cL_client 278 = .ok (.aload_n 0, 1) := by decide +kernel
theorem dL_client_279 : decode cL_client 279 = .ok (.invokevirtual 106, 3) := by decide +kernel
theorem dL_client_282 : decode cL_client 282 = .ok (.iload 9, 2) := by decide +kernel
theorem dL_client_284 : decode cL_client 284 = .ok (.iload 7, 2) := by decide +kernel
theorem dL_client_286 : decode cL_client 286 = .ok (.ifCond .eq 15, 3) := by decide +kernel
theorem dL_client_289 : decode cL_client 289 = .ok (.aload 6, 2) := by decide +kernel
theorem dL_client_291 : decode cL_client 291 = .ok (.iconst 0, 1) := by decide +kernel
theorem dL_client_292 : decode cL_client 292 = .ok (.iaload, 1) := by decide +kernel
theorem dL_client_293 : decode cL_client 293 = .ok (.iconst 2, 1) := by decide +kernel
theorem dL_client_294 : decode cL_client 294 = .ok (.if_icmp .ne 7, 3) := by decide +kernel
theorem dL_client_297 : decode cL_client 297 = .ok (.iconst 1, 1) := by decide +kernel
theorem dL_client_298 : decode cL_client 298 = .ok (.goto 4, 3) := by decide +kernel
theorem dL_client_301 : decode cL_client 301 = .ok (.iconst 0, 1) := by decide +kernel
theorem dL_client_302 : decode cL_client 302 = .ok (.isub, 1) := by decide +kernel
theorem dL_client_303 : decode cL_client 303 = .ok (.if_icmp .ne 7, 3) := by decide +kernel
theorem dL_client_306 : decode cL_client 306 = .ok (.iconst 1, 1) := by decide +kernel
theorem dL_client_307 : decode cL_client 307 = .ok (.goto 4, 3) := by decide +kernel
end
section
theorem dL_client_310 : decode cL_client 310 = .ok (.iconst 0, 1) := by decide +kernel
theorem dL_client_311 : decode cL_client 311 = .ok (.ireturn, 1) := by decide +kernel
theorem dL_client_312 : decode cL_client 312 = .ok (.iload 8, 2) := by decide +kernel
theorem dL_client_314 : decode cL_client 314 = .ok (.ifCond .ne 8, 3) := by decide +kernel
theorem dL_client_317 : decode cL_client 317 = .ok (.bipush (-9), 2) := by decide +kernel
theorem dL_client_319 : decode cL_client 319 = .ok (.goto 32, 3) := by decide +kernel
theorem dL_client_322 : decode cL_client 322 = .ok (.iload_n 1, 1) := by decide +kernel
theorem dL_client_323 : decode cL_client 323 = .ok (.ifCond .ne 17, 3) := by decide +kernel
theorem dL_client_326 : decode cL_client 326 = .ok (.iload 7, 2) := by decide +kernel
theorem dL_client_328 : decode cL_client 328 = .ok (.ifCond .eq 8, 3) := by decide +kernel
theorem dL_client_331 : decode cL_client 331 = .ok (.bipush (-8), 2) := by decide +kernel
theorem dL_client_333 : decode cL_client 333 = .ok (.goto 18, 3) := by decide +kernel
theorem dL_client_336 : decode cL_client 336 = .ok (.iconst 0, 1) := by decide +kernel
theorem dL_client_337 : decode cL_client 337 = .ok (.goto 14, 3) := by decide +kernel
theorem dL_client_340 : decode cL_client 340 = .ok (.iload 7, 2) := by decide +kernel
theorem dL_client_342 : decode cL_client 342 = .ok (.ifCond .eq 7, 3) := by decide +kernel
theorem dL_client_345 : decode cL_client 345 = .ok (.iconst 0, 1) := by decide +kernel
theorem dL_client_346 : decode cL_client 346 = .ok (.goto 5, 3) := by decide +kernel
theorem dL_client_349 : decode cL_client 349 = .ok (.bipush (-10), 2) := by decide +kernel
theorem dL_client_351 : decode cL_client 351 = .ok (.istore 11, 2) := by decide +kernel
theorem dL_client_353 : decode cL_client 353 = .ok (.aload_n 0, 1) := by decide +kernel
theorem dL_client_354 : decode cL_client 354 = .ok (.iload_n 1, 1) := by decide +kernel
theorem dL_client_355 : decode cL_client 355 = .ok (.iload_n 2, 1) := by decide +kernel
theorem dL_client_356 : decode cL_client 356 = .ok (.iload_n 3, 1) := by decide +kernel
theorem dL_client_357 : decode cL_client 357 = .ok (.iload 4, 2) := by decide +kernel
theorem dL_client_359 : decode cL_client 359 = .ok (.invokestatic 112, 3) := by decide +kernel
theorem dL_client_362 : decode cL_client 362 = .ok (.istore 12, 2) := by decide +kernel
theorem dL_client_364 : decode cL_client 364 = .ok (.aload 5, 2) := by decide +kernel
theorem dL_client_366 : decode cL_client 366 = .ok (.iload_n 2, 1) := by decide +kernel
theorem dL_client_367 : decode cL_client 367 = .ok (.iload 11, 2) := by decide +kernel
theorem dL_client_369 : decode cL_client 369 = .ok (.ifCond .ne 14, 3) := by decide +kernel
theorem dL_client_372 : decode cL_client 372 = .ok (.sipush 1000, 3) := by decide +kernel
theorem dL_client_375 : decode cL_client 375 = .ok (.iload_n 3, 1) := by decide +kernel
theorem dL_client_376 : decode cL_client 376 = .ok (.imul, 1) := by decide +kernel
theorem dL_client_377 : decode cL_client 377 = .ok (.iload 4, 2) := by decide +kernel
theorem dL_client_379 : decode cL_client 379 = .ok (.iadd, 1) := by decide +kernel
theorem dL_client_380 : decode cL_client 380 = .ok (.goto 7, 3) := by decide +kernel
theorem dL_client_383 : decode cL_client 383 = .ok (.aload 5, 2) := by decide +kernel
theorem dL_client_385 : decode cL_client 385 = .ok (.iload_n 2, 1) := by decide +kernel
theorem dL_client_386 : decode cL_client 386 = .ok (.iaload, 1) := by decide +kernel
theorem dL_client_387 : decode cL_client 387 = .ok (.iastore, 1) := by decide +kernel
theorem dL_client_388 : decode cL_client 388 = .ok (.aload 6, 2) := by decide +kernel
theorem dL_client_390 : decode cL_client 390 = .ok (.bipush 6, 2) := by decide +kernel
theorem dL_client_392 : decode cL_client 392 = .ok (.dup2, 1) := by decide +kernel
theorem dL_client_393 : decode cL_client 393 = .ok (.iaload, 1) := by decide +kernel
theorem dL_client_394 : decode cL_client 394 = .ok (.iload 11, 2) := by decide +kernel
theorem dL_client_396 : decode cL_client 396 = .ok (.ifCond .ne 15, 3) := by decide +kernel
theorem dL_client_399 : decode cL_client 399 = .ok (.aload 6, 2) := by decide +kernel
theorem dL_client_401 : decode cL_client 401 = .ok (.iconst 0, 1) := by decide +kernel
theorem dL_client_402 : decode cL_client 402 = .ok (.iaload, 1) := by decide +kernel
theorem dL_client_403 : decode cL_client 403 = .ok (.iconst 1, 1) := by decide +kernel
theorem dL_client_404 : decode cL_client 404 = .ok (.if_icmp .ne 7, 3) := by decide +kernel
theorem dL_client_407 : decode cL_client 407 = .ok (.iconst 1, 1) := by decide +kernel
theorem dL_client_408 : decode cL_client 408 = .ok (.goto 4, 3) := by decide +kernel
theorem dL_client_411 : decode cL_client 411 = .ok (.iconst 0, 1) := by decide +kernel
theorem dL_client_412 : decode cL_client 412 = .ok (.iadd, 1) := by decide +kernel
theorem dL_client_413 : decode cL_client 413 = .ok (.iastore, 1) := by decide +kernel
theorem dL_client_414 : decode cL_client 414 = .ok (.iload 12, 2) := by decide +kernel
theorem dL_client_416 : decode cL_client 416 = .ok (.iload 11, 2) := by decide +kernel
theorem dL_client_418 : decode cL_client 418 = .ok (.if_icmp .ne 39, 3) := by decide +kernel
theorem dL_client_421 : decode cL_client 421 = .ok (.aload_n 0, 1) := by decide +kernel
theorem dL_client_422 : decode cL_client 422 = .ok (.invokevirtual 106, 3) := by decide +kernel
theorem dL_client_425 : decode cL_client 425 = .ok (.iload 9, 2) := by decide +kernel
theorem dL_client_427 : decode cL_client 427 = .ok (.iload 11, 2) := by decide +kernel
theorem dL_client_429 : decode cL_client 429 = .ok (.ifCond .ne 19, 3) := by decide +kernel
theorem dL_client_432 : decode cL_client 432 = .ok (.iload_n 1, 1) := by decide +kernel
theorem dL_client_433 : decode cL_client 433 = .ok (.ifCond .ne 15, 3) := by decide +kernel
theorem dL_client_436 : decode cL_client 436 = .ok (.aload 6, 2) := by decide +kernel
theorem dL_client_438 : decode cL_client 438 = .ok (.iconst 0, 1) := by decide +kernel
theorem dL_client_439 : decode cL_client 439 = .ok (.iaload, 1) := by decide +kernel
theorem dL_client_440 : decode cL_client 440 = .ok (.iconst 2, 1) := by decide +kernel
theorem dL_client_441 : decode cL_client 441 = .ok (.if_icmp .ne 7, 3) := by decide +kernel
theorem dL_client_444 : decode cL_client 444 = .ok (.iconst 1, 1) := by decide +kernel
theorem dL_client_445 : decode cL_client 445 = .ok (.goto 4, 3) := by decide +kernel
theorem dL_client_448 : decode cL_client 448 = .ok (.iconst 0, 1) := by decide +kernel
theorem dL_client_449 : decode cL_client 449 = .ok (.iadd, 1) := by decide +kernel
theorem dL_client_450 : decode cL_client 450 = .ok (.if_icmp .ne 7, 3) := by decide +kernel
theorem dL_client_453 : decode cL_client 453 = .ok (.iconst 1, 1) := by decide +kernel
theorem dL_client_454 : decode cL_client 454 = .ok (.goto 4, 3) := by decide +kernel
theorem dL_client_457 : decode cL_client 457 = .ok (.iconst 0, 1) := by decide +kernel
theorem dL_client_458 : decode cL_client 458 = .ok (.ireturn, 1) := by decide +kernel
theorem dL_ticks_0 : decode cL_ticks 0 = .ok (.aload_n 0, 1) := by decide +kernel
theorem dL_ticks_1 : decode cL_ticks 1 = .ok (.iconst 4, 1) := by decide +kernel
theorem dL_ticks_2 : decode cL_ticks 2 = .ok (.iload_n 1, 1) := by decide +kernel
theorem dL_ticks_3 : decode cL_ticks 3 = .ok (.iconst 0, 1) := by decide +kernel
theorem dL_ticks_4 : decode cL_ticks 4 = .ok (.iconst 0, 1) := by decide +kernel
theorem dL_ticks_5 : decode cL_ticks 5 = .ok (.invokestatic 112, 3) := by decide +kernel
theorem dL_ticks_8 : decode cL_ticks 8 = .ok (.istore 4, 2) := by decide +kernel
theorem dL_ticks_10 : decode cL_ticks 10 = .ok (.aload_n 3, 1) := by decide +kernel
theorem dL_ticks_11 : decode cL_ticks 11 = .ok (.iconst 0, 1) := by decide +kernel
theorem dL_ticks_12 : decode cL_ticks 12 = .ok (.iaload, 1) := by decide +kernel
theorem dL_ticks_13 : decode cL_ticks 13 = .ok (.iconst 1, 1) := by decide +kernel
theorem dL_ticks_14 : decode cL_ticks 14 = .ok (.if_icmp .eq 16, 3) := by decide +kernel
theorem dL_ticks_17 : decode cL_ticks 17 = .ok (.iload 4, 2) := by decide +kernel
theorem dL_ticks_19 : decode cL_ticks 19 = .ok (.bipush (-8), 2) := by decide +kernel
theorem dL_ticks_21 : decode cL_ticks 21 = .ok (.if_icmp .ne 7, 3) := by decide +kernel
theorem dL_ticks_24 : decode cL_ticks 24 = .ok (.iconst 1, 1) := by decide +kernel
theorem dL_ticks_25 : decode cL_ticks 25 = .ok (.goto 4, 3) := by decide +kernel
theorem dL_ticks_28 : decode cL_ticks 28 = .ok (.iconst 0, 1) := by decide +kernel
theorem dL_ticks_29 : decode cL_ticks 29 = .ok (.ireturn, 1) := by decide +kernel
theorem dL_ticks_30 : decode cL_ticks 30 = .ok (.iload_n 1, 1) := by decide +kernel
theorem dL_ticks_31 : decode cL_ticks 31 = .ok (.aload_n 3, 1) := by decide +kernel
theorem dL_ticks_32 : decode cL_ticks 32 = .ok (.iconst 4, 1) := by decide +kernel
theorem dL_ticks_33 : decode cL_ticks 33 = .ok (.iaload, 1) := by decide +kernel
theorem dL_ticks_34 : decode cL_ticks 34 = .ok (.if_icmp .le 14, 3) := by decide +kernel
theorem dL_ticks_37 : decode cL_ticks 37 = .ok (.iload 4, 2) := by decide +kernel
theorem dL_ticks_39 : decode cL_ticks 39 = .ok (.ifCond .ne 7, 3) := by decide +kernel
theorem dL_ticks_42 : decode cL_ticks 42 = .ok (.iconst 1, 1) := by decide +kernel
theorem dL_ticks_43 : decode cL_ticks 43 = .ok (.goto 4, 3) := by decide +kernel
theorem dL_ticks_46 : decode cL_ticks 46 = .ok (.iconst 0, 1) := by decide +kernel
theorem dL_ticks_47 : decode cL_ticks 47 = .ok (.ireturn, 1) := by decide +kernel
theorem dL_ticks_48 : decode cL_ticks 48 = .ok (.aload_n 3, 1) := by decide +kernel
theorem dL_ticks_49 : decode cL_ticks 49 = .ok (.iconst 5, 1) := by decide +kernel
theorem dL_ticks_50 : decode cL_ticks 50 = .ok (.iaload, 1) := by decide +kernel
theorem dL_ticks_51 : decode cL_ticks 51 = .ok (.bipush 40, 2) := by decide +kernel
theorem dL_ticks_53 : decode cL_ticks 53 = .ok (.if_icmp .ge 12, 3) := by decide +kernel
theorem dL_ticks_56 : decode cL_ticks 56 = .ok (.bipush 40, 2) := by decide +kernel
theorem dL_ticks_58 : decode cL_ticks 58 = .ok (.aload_n 3, 1) := by decide +kernel
theorem dL_ticks_59 : decode cL_ticks 59 = .ok (.iconst 5, 1) := by decide +kernel
theorem dL_ticks_60 : decode cL_ticks 60 = .ok (.iaload, 1) := by decide +kernel
theorem dL_ticks_61 : decode cL_ticks 61 = .ok (.isub, 1) := by decide +kernel
theorem dL_ticks_62 : decode cL_ticks 62 = .ok (.goto 7, 3) := by decide +kernel
theorem dL_ticks_65 : decode cL_ticks 65 = .ok (.aload_n 3, 1) := by decide +kernel
theorem dL_ticks_66 : decode cL_ticks 66 = .ok (.bipush 6, 2) := by decide +kernel
theorem dL_ticks_68 : decode cL_ticks 68 = .ok (.iaload, 1) := by decide +kernel
theorem dL_ticks_69 : decode cL_ticks 69 = .ok (.istore 5, 2) := by decide +kernel
theorem dL_ticks_71 : decode cL_ticks 71 = .ok (.iload 5, 2) := by decide +kernel
theorem dL_ticks_73 : decode cL_ticks 73 = .ok (.aload_n 3, 1) := by decide +kernel
theorem dL_ticks_74 : decode cL_ticks 74 = .ok (.iconst 3, 1) := by decide +kernel
theorem dL_ticks_75 : decode cL_ticks 75 = .ok (.iaload, 1) := by decide +kernel
theorem dL_ticks_76 : decode cL_ticks 76 = .ok (.if_icmp .ge 8, 3) := by decide +kernel
theorem dL_ticks_79 : decode cL_ticks 79 = .ok (.iload 5, 2) := by decide +kernel
theorem dL_ticks_81 : decode cL_ticks 81 = .ok (.goto 6, 3) := by decide +kernel
theorem dL_ticks_84 : decode cL_ticks 84 = .ok (.aload_n 3, 1) := by decide +kernel
theorem dL_ticks_85 : decode cL_ticks 85 = .ok (.iconst 3, 1) := by decide +kernel
theorem dL_ticks_86 : decode cL_ticks 86 = .ok (.iaload, 1) := by decide +kernel
theorem dL_ticks_87 : decode cL_ticks 87 = .ok (.istore 6, 2) := by decide +kernel
theorem dL_ticks_89 : decode cL_ticks 89 = .ok (.iload 4, 2) := by decide +kernel
theorem dL_ticks_91 : decode cL_ticks 91 = .ok (.iload 6, 2) := by decide +kernel
theorem dL_ticks_93 : decode cL_ticks 93 = .ok (.if_icmp .ne 7, 3) := by decide +kernel
theorem dL_ticks_96 : decode cL_ticks 96 = .ok (.iconst 1, 1) := by decide +kernel
theorem dL_ticks_97 : decode cL_ticks 97 = .ok (.goto 4, 3) := by decide +kernel
theorem dL_ticks_100 : decode cL_ticks 100 = .ok (.iconst 0, 1) := by decide +kernel
theorem dL_ticks_101 : decode cL_ticks 101 = .ok (.istore 7, 2) := by decide +kernel
theorem dL_ticks_103 : decode cL_ticks 103 = .ok (.iconst 0, 1) := by decide +kernel
theorem dL_ticks_104 : decode cL_ticks 104 = .ok (.istore 8, 2) := by decide +kernel
theorem dL_ticks_106 : decode cL_ticks 106 = .ok (.iload 8, 2) := by decide +kernel
theorem dL_ticks_108 : decode cL_ticks 108 = .ok (.iload 6, 2) := by decide +kernel
theorem dL_ticks_110 : decode cL_ticks 110 = .ok (.if_icmp .ge 89, 3) := by decide +kernel
theorem dL_ticks_113 : decode cL_ticks 113 = .ok (.aload_n 3, 1) := by decide +kernel
theorem dL_ticks_114 : decode cL_ticks 114 = .ok (.iconst 5, 1) := by decide +kernel
theorem dL_ticks_115 : decode cL_ticks 115 = .ok (.iaload, 1) := by decide +kernel
theorem dL_ticks_116 : decode cL_ticks 116 = .ok (.bipush 40, 2) := by decide +kernel
theorem dL_ticks_118 : decode cL_ticks 118 = .ok (.if_icmp .ge 81, 3) := by decide +kernel
theorem dL_ticks_121 : decode cL_ticks 121 = .ok (.iload 7, 2) := by decide +kernel
theorem dL_ticks_123 : decode cL_ticks 123 = .ok (.ifCond .eq 76, 3) := by decide +kernel
theorem dL_ticks_126 : decode cL_ticks 126 = .ok (.aload_n 0, 1) := by decide +kernel
theorem dL_ticks_127 : decode cL_ticks 127 = .ok (.aload_n 2, 1) := by decide +kernel
theorem dL_ticks_128 : decode cL_ticks 128 = .ok (.aload_n 3, 1) := by decide +kernel
theorem dL_ticks_129 : decode cL_ticks 129 = .ok (.aload_n 3, 1) := by decide +kernel
theorem dL_ticks_130 : decode cL_ticks 130 = .ok (.iconst 5, 1) := by decide +kernel
theorem dL_ticks_131 : decode cL_ticks 131 = .ok (.iaload, 1) := by decide +kernel
theorem dL_ticks_132 : decode cL_ticks 132 = .ok (.iload 8, 2) := by decide +kernel
theorem dL_ticks_134 : decode cL_ticks 134 = .ok (.iadd, 1) := by decide +kernel
theorem dL_ticks_135 : decode cL_ticks 135 = .ok (.invokestatic 87, 3) := by decide +kernel
theorem dL_ticks_138 : decode cL_ticks 138 = .ok (.ifCond .eq 52, 3) := by decide +kernel
theorem dL_ticks_141 : decode cL_ticks 141 = .ok (.aload_n 0, 1) := by decide +kernel
theorem dL_ticks_142 : decode cL_ticks 142 = .ok (.aload_n 3, 1) := by decide +kernel
theorem dL_ticks_143 : decode cL_ticks 143 = .ok (.iconst 5, 1) := by decide +kernel
theorem dL_ticks_144 : decode cL_ticks 144 = .ok (.iaload, 1) := by decide +kernel
end
section
theorem dL_ticks_145 : decode cL_ticks 145 = .ok (.iload 8, 2) := by decide +kernel
theorem dL_ticks_147 : decode cL_ticks 147 = .ok (.iadd, 1) := by decide +kernel
theorem dL_ticks_148 : decode cL_ticks 148 = .ok (.invokevirtual 93, 3) := by decide +kernel
theorem dL_ticks_151 : decode cL_ticks 151 = .ok (.aload_n 2, 1) := by decide +kernel
theorem dL_ticks_152 : decode cL_ticks 152 = .ok (.aload_n 3, 1) := by decide +kernel
theorem dL_ticks_153 : decode cL_ticks 153 = .ok (.iconst 5, 1) := by decide +kernel
theorem dL_ticks_154 : decode cL_ticks 154 = .ok (.iaload, 1) := by decide +kernel
theorem dL_ticks_155 : decode cL_ticks 155 = .ok (.iload 8, 2) := by decide +kernel
theorem dL_ticks_157 : decode cL_ticks 157 = .ok (.iadd, 1) := by decide +kernel
theorem dL_ticks_158 : decode cL_ticks 158 = .ok (.iaload, 1) := by decide +kernel
theorem dL_ticks_159 : decode cL_ticks 159 = .ok (.ifCond .lt 23, 3) := by decide +kernel
theorem dL_ticks_162 : decode cL_ticks 162 = .ok (.aload_n 3, 1) := by decide +kernel
theorem dL_ticks_163 : decode cL_ticks 163 = .ok (.aload_n 2, 1) := by decide +kernel
theorem dL_ticks_164 : decode cL_ticks 164 = .ok (.aload_n 3, 1) := by decide +kernel
theorem dL_ticks_165 : decode cL_ticks 165 = .ok (.iconst 5, 1) := by decide +kernel
theorem dL_ticks_166 : decode cL_ticks 166 = .ok (.iaload, 1) := by decide +kernel
theorem dL_ticks_167 : decode cL_ticks 167 = .ok (.iload 8, 2) := by decide +kernel
theorem dL_ticks_169 : decode cL_ticks 169 = .ok (.iadd, 1) := by decide +kernel
theorem dL_ticks_170 : decode cL_ticks 170 = .ok (.iaload, 1) := by decide +kernel
theorem dL_ticks_171 : decode cL_ticks 171 = .ok (.iconst 0, 1) := by decide +kernel
theorem dL_ticks_172 : decode cL_ticks 172 = .ok (.invokestatic 70, 3) := by decide +kernel
theorem dL_ticks_175 : decode cL_ticks 175 = .ok (.ifCond .ge 7, 3) := by decide +kernel
theorem dL_ticks_178 : decode cL_ticks 178 = .ok (.iconst 1, 1) := by decide +kernel
theorem dL_ticks_179 : decode cL_ticks 179 = .ok (.goto 4, 3) := by decide +kernel
theorem dL_ticks_182 : decode cL_ticks 182 = .ok (.iconst 0, 1) := by decide +kernel
theorem dL_ticks_183 : decode cL_ticks 183 = .ok (.if_icmp .ne 7, 3) := by decide +kernel
theorem dL_ticks_186 : decode cL_ticks 186 = .ok (.iconst 1, 1) := by decide +kernel
theorem dL_ticks_187 : decode cL_ticks 187 = .ok (.goto 4, 3) := by decide +kernel
theorem dL_ticks_190 : decode cL_ticks 190 = .ok (.iconst 0, 1) := by decide +kernel
theorem dL_ticks_191 : decode cL_ticks 191 = .ok (.istore 7, 2) := by decide +kernel
theorem dL_ticks_193 : decode cL_ticks 193 = .ok (.iinc 8 1, 3) := by decide +kernel
theorem dL_ticks_196 : decode cL_ticks 196 = .ok (.goto (-90), 3) := by decide +kernel
theorem dL_ticks_199 : decode cL_ticks 199 = .ok (.aload_n 3, 1) := by decide +kernel
theorem dL_ticks_200 : decode cL_ticks 200 = .ok (.bipush 6, 2) := by decide +kernel
theorem dL_ticks_202 : decode cL_ticks 202 = .ok (.dup2, 1) := by decide +kernel
theorem dL_ticks_203 : decode cL_ticks 203 = .ok (.iaload, 1) := by decide +kernel
theorem dL_ticks_204 : decode cL_ticks 204 = .ok (.aload_n 3, 1) := by decide +kernel
theorem dL_ticks_205 : decode cL_ticks 205 = .ok (.iconst 5, 1) := by decide +kernel
theorem dL_ticks_206 : decode cL_ticks 206 = .ok (.iaload, 1) := by decide +kernel
theorem dL_ticks_207 : decode cL_ticks 207 = .ok (.bipush 40, 2) := by decide +kernel
theorem dL_ticks_209 : decode cL_ticks 209 = .ok (.if_icmp .ge 7, 3) := by decide +kernel
theorem dL_ticks_212 : decode cL_ticks 212 = .ok (.iconst 0, 1) := by decide +kernel
theorem dL_ticks_213 : decode cL_ticks 213 = .ok (.goto 5, 3) := by decide +kernel
theorem dL_ticks_216 : decode cL_ticks 216 = .ok (.iload 6, 2) := by decide +kernel
theorem dL_ticks_218 : decode cL_ticks 218 = .ok (.isub, 1) := by decide +kernel
theorem dL_ticks_219 : decode cL_ticks 219 = .ok (.iastore, 1) := by decide +kernel
theorem dL_ticks_220 : decode cL_ticks 220 = .ok (.aload_n 3, 1) := by decide +kernel
theorem dL_ticks_221 : decode cL_ticks 221 = .ok (.iconst 5, 1) := by decide +kernel
theorem dL_ticks_222 : decode cL_ticks 222 = .ok (.dup2, 1) := by decide +kernel
theorem dL_ticks_223 : decode cL_ticks 223 = .ok (.iaload, 1) := by decide +kernel
theorem dL_ticks_224 : decode cL_ticks 224 = .ok (.aload_n 3, 1) := by decide +kernel
theorem dL_ticks_225 : decode cL_ticks 225 = .ok (.iconst 5, 1) := by decide +kernel
theorem dL_ticks_226 : decode cL_ticks 226 = .ok (.iaload, 1) := by decide +kernel
theorem dL_ticks_227 : decode cL_ticks 227 = .ok (.bipush 40, 2) := by decide +kernel
theorem dL_ticks_229 : decode cL_ticks 229 = .ok (.if_icmp .ge 8, 3) := by decide +kernel
theorem dL_ticks_232 : decode cL_ticks 232 = .ok (.iload 6, 2) := by decide +kernel
theorem dL_ticks_234 : decode cL_ticks 234 = .ok (.goto 4, 3) := by decide +kernel
theorem dL_ticks_237 : decode cL_ticks 237 = .ok (.iconst 0, 1) := by decide +kernel
theorem dL_ticks_238 : decode cL_ticks 238 = .ok (.iadd, 1) := by decide +kernel
theorem dL_ticks_239 : decode cL_ticks 239 = .ok (.iastore, 1) := by decide +kernel
theorem dL_ticks_240 : decode cL_ticks 240 = .ok (.iload 7, 2) := by decide +kernel
theorem dL_ticks_242 : decode cL_ticks 242 = .ok (.ifCond .eq 29, 3) := by decide +kernel
theorem dL_ticks_245 : decode cL_ticks 245 = .ok (.aload_n 3, 1) := by decide +kernel
theorem dL_ticks_246 : decode cL_ticks 246 = .ok (.iconst 5, 1) := by decide +kernel
theorem dL_ticks_247 : decode cL_ticks 247 = .ok (.iaload, 1) := by decide +kernel
theorem dL_ticks_248 : decode cL_ticks 248 = .ok (.bipush 40, 2) := by decide +kernel
theorem dL_ticks_250 : decode cL_ticks 250 = .ok (.if_icmp .lt 17, 3) := by decide +kernel
theorem dL_ticks_253 : decode cL_ticks 253 = .ok (.aload_n 3, 1) := by decide +kernel
theorem dL_ticks_254 : decode cL_ticks 254 = .ok (.bipush 6, 2) := by decide +kernel
theorem dL_ticks_256 : decode cL_ticks 256 = .ok (.iaload, 1) := by decide +kernel
theorem dL_ticks_257 : decode cL_ticks 257 = .ok (.ifCond .gt 10, 3) := by decide +kernel
theorem dL_ticks_260 : decode cL_ticks 260 = .ok (.aload_n 0, 1) := by decide +kernel
theorem dL_ticks_261 : decode cL_ticks 261 = .ok (.invokevirtual 109, 3) := by decide +kernel
theorem dL_ticks_264 : decode cL_ticks 264 = .ok (.ifCond .ne 7, 3) := by decide +kernel
theorem dL_ticks_267 : decode cL_ticks 267 = .ok (.iconst 1, 1) := by decide +kernel
theorem dL_ticks_268 : decode cL_ticks 268 = .ok (.goto 4, 3) := by decide +kernel
theorem dL_ticks_271 : decode cL_ticks 271 = .ok (.iconst 0, 1) := by decide +kernel
theorem dL_ticks_272 : decode cL_ticks 272 = .ok (.ireturn, 1) := by decide +kernel
theorem dL_changes_0 : decode cL_changes 0 = .ok (.aload_n 0, 1) := by decide +kernel
theorem dL_changes_1 : decode cL_changes 1 = .ok (.invokevirtual 106, 3) := by decide +kernel
theorem dL_changes_4 : decode cL_changes 4 = .ok (.istore 6, 2) := by decide +kernel
theorem dL_changes_6 : decode cL_changes 6 = .ok (.iconst 0, 1) := by decide +kernel
theorem dL_changes_7 : decode cL_changes 7 = .ok (.istore 7, 2) := by decide +kernel
theorem dL_changes_9 : decode cL_changes 9 = .ok (.iconst 0, 1) := by decide +kernel
theorem dL_changes_10 : decode cL_changes 10 = .ok (.istore 8, 2) := by decide +kernel
theorem dL_changes_12 : decode cL_changes 12 = .ok (.iload 8, 2) := by decide +kernel
theorem dL_changes_14 : decode cL_changes 14 = .ok (.bipush 40, 2) := by decide +kernel
theorem dL_changes_16 : decode cL_changes 16 = .ok (.if_icmp .ge 40, 3) := by decide +kernel
theorem dL_changes_19 : decode cL_changes 19 = .ok (.iload 7, 2) := by decide +kernel
theorem dL_changes_21 : decode cL_changes 21 = .ok (.aload 4, 2) := by decide +kernel
theorem dL_changes_23 : decode cL_changes 23 = .ok (.iload 8, 2) := by decide +kernel
theorem dL_changes_25 : decode cL_changes 25 = .ok (.iaload, 1) := by decide +kernel
theorem dL_changes_26 : decode cL_changes 26 = .ok (.ifCond .lt 20, 3) := by decide +kernel
theorem dL_changes_29 : decode cL_changes 29 = .ok (.aload_n 0, 1) := by decide +kernel
theorem dL_changes_30 : decode cL_changes 30 = .ok (.aload 4, 2) := by decide +kernel
theorem dL_changes_32 : decode cL_changes 32 = .ok (.aload 5, 2) := by decide +kernel
theorem dL_changes_34 : decode cL_changes 34 = .ok (.iload 8, 2) := by decide +kernel
theorem dL_changes_36 : decode cL_changes 36 = .ok (.invokestatic 83, 3) := by decide +kernel
theorem dL_changes_39 : decode cL_changes 39 = .ok (.ifCond .ne 7, 3) := by decide +kernel
theorem dL_changes_42 : decode cL_changes 42 = .ok (.iconst 1, 1) := by decide +kernel
theorem dL_changes_43 : decode cL_changes 43 = .ok (.goto 4, 3) := by decide +kernel
theorem dL_changes_46 : decode cL_changes 46 = .ok (.iconst 0, 1) := by decide +kernel
theorem dL_changes_47 : decode cL_changes 47 = .ok (.iadd, 1) := by decide +kernel
theorem dL_changes_48 : decode cL_changes 48 = .ok (.istore 7, 2) := by decide +kernel
theorem dL_changes_50 : decode cL_changes 50 = .ok (.iinc 8 1, 3) := by decide +kernel
theorem dL_changes_53 : decode cL_changes 53 = .ok (.goto (-41), 3) := by decide +kernel
theorem dL_changes_56 : decode cL_changes 56 = .ok (.iload_n 1, 1) := by decide +kernel
theorem dL_changes_57 : decode cL_changes 57 = .ok (.iconst 5, 1) := by decide +kernel
theorem dL_changes_58 : decode cL_changes 58 = .ok (.if_icmp .ne 142, 3) := by decide +kernel
theorem dL_changes_61 : decode cL_changes 61 = .ok (.iload_n 2, 1) := by decide +kernel
theorem dL_changes_62 : decode cL_changes 62 = .ok (.iconst 3, 1) := by decide +kernel
theorem dL_changes_63 : decode cL_changes 63 = .ok (.irem, 1) := by decide +kernel
theorem dL_changes_64 : decode cL_changes 64 = .ok (.ifCond .ne 9, 3) := by decide +kernel
theorem dL_changes_67 : decode cL_changes 67 = .ok (.iload_n 3, 1) := by decide +kernel
theorem dL_changes_68 : decode cL_changes 68 = .ok (.iconst 4, 1) := by decide +kernel
theorem dL_changes_69 : decode cL_changes 69 = .ok (.irem, 1) := by decide +kernel
theorem dL_changes_70 : decode cL_changes 70 = .ok (.goto 8, 3) := by decide +kernel
theorem dL_changes_73 : decode cL_changes 73 = .ok (.iload_n 3, 1) := by decide +kernel
theorem dL_changes_74 : decode cL_changes 74 = .ok (.sipush 1001, 3) := by decide +kernel
theorem dL_changes_77 : decode cL_changes 77 = .ok (.irem, 1) := by decide +kernel
theorem dL_changes_78 : decode cL_changes 78 = .ok (.istore 8, 2) := by decide +kernel
theorem dL_changes_80 : decode cL_changes 80 = .ok (.aload_n 0, 1) := by decide +kernel
theorem dL_changes_81 : decode cL_changes 81 = .ok (.iconst 5, 1) := by decide +kernel
theorem dL_changes_82 : decode cL_changes 82 = .ok (.iload 8, 2) := by decide +kernel
theorem dL_changes_84 : decode cL_changes 84 = .ok (.iconst 0, 1) := by decide +kernel
theorem dL_changes_85 : decode cL_changes 85 = .ok (.iconst 0, 1) := by decide +kernel
theorem dL_changes_86 : decode cL_changes 86 = .ok (.invokestatic 112, 3) := by decide +kernel
theorem dL_changes_89 : decode cL_changes 89 = .ok (.istore 9, 2) := by decide +kernel
theorem dL_changes_91 : decode cL_changes 91 = .ok (.aload 5, 2) := by decide +kernel
theorem dL_changes_93 : decode cL_changes 93 = .ok (.iconst 0, 1) := by decide +kernel
theorem dL_changes_94 : decode cL_changes 94 = .ok (.iaload, 1) := by decide +kernel
theorem dL_changes_95 : decode cL_changes 95 = .ok (.iconst 1, 1) := by decide +kernel
theorem dL_changes_96 : decode cL_changes 96 = .ok (.if_icmp .ne 26, 3) := by decide +kernel
theorem dL_changes_99 : decode cL_changes 99 = .ok (.aload 5, 2) := by decide +kernel
theorem dL_changes_101 : decode cL_changes 101 = .ok (.iconst 5, 1) := by decide +kernel
theorem dL_changes_102 : decode cL_changes 102 = .ok (.iaload, 1) := by decide +kernel
theorem dL_changes_103 : decode cL_changes 103 = .ok (.bipush 40, 2) := by decide +kernel
theorem dL_changes_105 : decode cL_changes 105 = .ok (.if_icmp .ne 17, 3) := by decide +kernel
theorem dL_changes_108 : decode cL_changes 108 = .ok (.aload 5, 2) := by decide +kernel
theorem dL_changes_110 : decode cL_changes 110 = .ok (.bipush 6, 2) := by decide +kernel
theorem dL_changes_112 : decode cL_changes 112 = .ok (.iaload, 1) := by decide +kernel
theorem dL_changes_113 : decode cL_changes 113 = .ok (.iload 8, 2) := by decide +kernel
theorem dL_changes_115 : decode cL_changes 115 = .ok (.if_icmp .gt 7, 3) := by decide +kernel
theorem dL_changes_118 : decode cL_changes 118 = .ok (.iconst 1, 1) := by decide +kernel
theorem dL_changes_119 : decode cL_changes 119 = .ok (.goto 4, 3) := by decide +kernel
theorem dL_changes_122 : decode cL_changes 122 = .ok (.iconst 0, 1) := by decide +kernel
theorem dL_changes_123 : decode cL_changes 123 = .ok (.istore 10, 2) := by decide +kernel
theorem dL_changes_125 : decode cL_changes 125 = .ok (.aload 5, 2) := by decide +kernel
theorem dL_changes_127 : decode cL_changes 127 = .ok (.bipush 6, 2) := by decide +kernel
theorem dL_changes_129 : decode cL_changes 129 = .ok (.iaload, 1) := by decide +kernel
theorem dL_changes_130 : decode cL_changes 130 = .ok (.istore 11, 2) := by decide +kernel
theorem dL_changes_132 : decode cL_changes 132 = .ok (.aload 5, 2) := by decide +kernel
theorem dL_changes_134 : decode cL_changes 134 = .ok (.iconst 0, 1) := by decide +kernel
theorem dL_changes_135 : decode cL_changes 135 = .ok (.iload 10, 2) := by decide +kernel
theorem dL_changes_137 : decode cL_changes 137 = .ok (.ifCond .eq 7, 3) := by decide +kernel
theorem dL_changes_140 : decode cL_changes 140 = .ok (.iconst 2, 1) := by decide +kernel
theorem dL_changes_141 : decode cL_changes 141 = .ok (.goto 7, 3) := by decide +kernel
theorem dL_changes_144 : decode cL_changes 144 = .ok (.aload 5, 2) := by decide +kernel
theorem dL_changes_146 : decode cL_changes 146 = .ok (.iconst 0, 1) := by decide +kernel
theorem dL_changes_147 : decode cL_changes 147 = .ok (.iaload, 1) := by decide +kernel
theorem dL_changes_148 : decode cL_changes 148 = .ok (.iastore, 1) := by decide +kernel
theorem dL_changes_149 : decode cL_changes 149 = .ok (.aload 5, 2) := by decide +kernel
theorem dL_changes_151 : decode cL_changes 151 = .ok (.bipush 6, 2) := by decide +kernel
theorem dL_changes_153 : decode cL_changes 153 = .ok (.iload 10, 2) := by decide +kernel
theorem dL_changes_155 : decode cL_changes 155 = .ok (.ifCond .eq 7, 3) := by decide +kernel
theorem dL_changes_158 : decode cL_changes 158 = .ok (.iconst 0, 1) := by decide +kernel
theorem dL_changes_159 : decode cL_changes 159 = .ok (.goto 5, 3) := by decide +kernel
theorem dL_changes_162 : decode cL_changes 162 = .ok (.iload 11, 2) := by decide +kernel
theorem dL_changes_164 : decode cL_changes 164 = .ok (.iastore, 1) := by decide +kernel
theorem dL_changes_165 : decode cL_changes 165 = .ok (.iload 9, 2) := by decide +kernel
end
section
theorem dL_changes_167 : decode cL_changes 167 = .ok (.iload 10, 2) := by decide +kernel
theorem dL_changes_169 : decode cL_changes 169 = .ok (.ifCond .eq 8, 3) := by decide +kernel
theorem dL_changes_172 : decode cL_changes 172 = .ok (.iload 11, 2) := by decide +kernel
theorem dL_changes_174 : decode cL_changes 174 = .ok (.goto 5, 3) := by decide +kernel
theorem dL_changes_177 : decode cL_changes 177 = .ok (.bipush (-8), 2) := by decide +kernel
theorem dL_changes_179 : decode cL_changes 179 = .ok (.if_icmp .ne 19, 3) := by decide +kernel
theorem dL_changes_182 : decode cL_changes 182 = .ok (.iload 10, 2) := by decide +kernel
theorem dL_changes_184 : decode cL_changes 184 = .ok (.ifCond .eq 10, 3) := by decide +kernel
theorem dL_changes_187 : decode cL_changes 187 = .ok (.aload_n 0, 1) := by decide +kernel
theorem dL_changes_188 : decode cL_changes 188 = .ok (.invokevirtual 109, 3) := by decide +kernel
theorem dL_changes_191 : decode cL_changes 191 = .ok (.ifCond .ne 7, 3) := by decide +kernel
theorem dL_changes_194 : decode cL_changes 194 = .ok (.iconst 1, 1) := by decide +kernel
theorem dL_changes_195 : decode cL_changes 195 = .ok (.goto 4, 3) := by decide +kernel
theorem dL_changes_198 : decode cL_changes 198 = .ok (.iconst 0, 1) := by decide +kernel
theorem dL_changes_199 : decode cL_changes 199 = .ok (.ireturn, 1) := by decide +kernel
theorem dL_changes_200 : decode cL_changes 200 = .ok (.iload_n 1, 1) := by decide +kernel
theorem dL_changes_201 : decode cL_changes 201 = .ok (.bipush 6, 2) := by decide +kernel
theorem dL_changes_203 : decode cL_changes 203 = .ok (.if_icmp .ne 122, 3) := by decide +kernel
theorem dL_changes_206 : decode cL_changes 206 = .ok (.aload_n 0, 1) := by decide +kernel
theorem dL_changes_207 : decode cL_changes 207 = .ok (.bipush 6, 2) := by decide +kernel
theorem dL_changes_209 : decode cL_changes 209 = .ok (.iconst 0, 1) := by decide +kernel
theorem dL_changes_210 : decode cL_changes 210 = .ok (.iconst 0, 1) := by decide +kernel
theorem dL_changes_211 : decode cL_changes 211 = .ok (.iconst 0, 1) := by decide +kernel
theorem dL_changes_212 : decode cL_changes 212 = .ok (.invokestatic 112, 3) := by decide +kernel
theorem dL_changes_215 : decode cL_changes 215 = .ok (.istore 8, 2) := by decide +kernel
theorem dL_changes_217 : decode cL_changes 217 = .ok (.aload 5, 2) := by decide +kernel
theorem dL_changes_219 : decode cL_changes 219 = .ok (.iconst 0, 1) := by decide +kernel
theorem dL_changes_220 : decode cL_changes 220 = .ok (.iaload, 1) := by decide +kernel
theorem dL_changes_221 : decode cL_changes 221 = .ok (.iconst 2, 1) := by decide +kernel
theorem dL_changes_222 : decode cL_changes 222 = .ok (.if_icmp .ne 7, 3) := by decide +kernel
theorem dL_changes_225 : decode cL_changes 225 = .ok (.iconst 1, 1) := by decide +kernel
theorem dL_changes_226 : decode cL_changes 226 = .ok (.goto 4, 3) := by decide +kernel
theorem dL_changes_229 : decode cL_changes 229 = .ok (.iconst 0, 1) := by decide +kernel
theorem dL_changes_230 : decode cL_changes 230 = .ok (.istore 9, 2) := by decide +kernel
theorem dL_changes_232 : decode cL_changes 232 = .ok (.iconst 0, 1) := by decide +kernel
theorem dL_changes_233 : decode cL_changes 233 = .ok (.istore 10, 2) := by decide +kernel
theorem dL_changes_235 : decode cL_changes 235 = .ok (.iload 10, 2) := by decide +kernel
theorem dL_changes_237 : decode cL_changes 237 = .ok (.bipush 40, 2) := by decide +kernel
theorem dL_changes_239 : decode cL_changes 239 = .ok (.if_icmp .ge 25, 3) := by decide +kernel
theorem dL_changes_242 : decode cL_changes 242 = .ok (.iload 9, 2) := by decide +kernel
theorem dL_changes_244 : decode cL_changes 244 = .ok (.ifCond .eq 20, 3) := by decide +kernel
theorem dL_changes_247 : decode cL_changes 247 = .ok (.aload 4, 2) := by decide +kernel
theorem dL_changes_249 : decode cL_changes 249 = .ok (.iload 10, 2) := by decide +kernel
theorem dL_changes_251 : decode cL_changes 251 = .ok (.aload_n 0, 1) := by decide +kernel
theorem dL_changes_252 : decode cL_changes 252 = .ok (.iload 10, 2) := by decide +kernel
theorem dL_changes_254 : decode cL_changes 254 = .ok (.invokevirtual 90, 3) := by decide +kernel
theorem dL_changes_257 : decode cL_changes 257 = .ok (.iastore, 1) := by decide +kernel
theorem dL_changes_258 : decode cL_changes 258 = .ok (.iinc 10 1, 3) := by decide +kernel
theorem dL_changes_261 : decode cL_changes 261 = .ok (.goto (-26), 3) := by decide +kernel
theorem dL_changes_264 : decode cL_changes 264 = .ok (.aload 5, 2) := by decide +kernel
theorem dL_changes_266 : decode cL_changes 266 = .ok (.iconst 0, 1) := by decide +kernel
theorem dL_changes_267 : decode cL_changes 267 = .ok (.iload 9, 2) := by decide +kernel
theorem dL_changes_269 : decode cL_changes 269 = .ok (.ifCond .eq 7, 3) := by decide +kernel
theorem dL_changes_272 : decode cL_changes 272 = .ok (.iconst 0, 1) := by decide +kernel
theorem dL_changes_273 : decode cL_changes 273 = .ok (.goto 7, 3) := by decide +kernel
theorem dL_changes_276 : decode cL_changes 276 = .ok (.aload 5, 2) := by decide +kernel
theorem dL_changes_278 : decode cL_changes 278 = .ok (.iconst 0, 1) := by decide +kernel
theorem dL_changes_279 : decode cL_changes 279 = .ok (.iaload, 1) := by decide +kernel
theorem dL_changes_280 : decode cL_changes 280 = .ok (.iastore, 1) := by decide +kernel
theorem dL_changes_281 : decode cL_changes 281 = .ok (.iload 8, 2) := by decide +kernel
theorem dL_changes_283 : decode cL_changes 283 = .ok (.iload 9, 2) := by decide +kernel
theorem dL_changes_285 : decode cL_changes 285 = .ok (.ifCond .eq 8, 3) := by decide +kernel
theorem dL_changes_288 : decode cL_changes 288 = .ok (.iload 7, 2) := by decide +kernel
theorem dL_changes_290 : decode cL_changes 290 = .ok (.goto 5, 3) := by decide +kernel
theorem dL_changes_293 : decode cL_changes 293 = .ok (.bipush (-8), 2) := by decide +kernel
theorem dL_changes_295 : decode cL_changes 295 = .ok (.if_icmp .ne 28, 3) := by decide +kernel
theorem dL_changes_298 : decode cL_changes 298 = .ok (.iload 9, 2) := by decide +kernel
theorem dL_changes_300 : decode cL_changes 300 = .ok (.ifCond .eq 19, 3) := by decide +kernel
theorem dL_changes_303 : decode cL_changes 303 = .ok (.aload_n 0, 1) := by decide +kernel
theorem dL_changes_304 : decode cL_changes 304 = .ok (.invokevirtual 103, 3) := by decide +kernel
theorem dL_changes_307 : decode cL_changes 307 = .ok (.iload 6, 2) := by decide +kernel
theorem dL_changes_309 : decode cL_changes 309 = .ok (.if_icmp .ne 14, 3) := by decide +kernel
theorem dL_changes_312 : decode cL_changes 312 = .ok (.aload_n 0, 1) := by decide +kernel
theorem dL_changes_313 : decode cL_changes 313 = .ok (.invokevirtual 106, 3) := by decide +kernel
theorem dL_changes_316 : decode cL_changes 316 = .ok (.ifCond .ne 7, 3) := by decide +kernel
theorem dL_changes_319 : decode cL_changes 319 = .ok (.iconst 1, 1) := by decide +kernel
theorem dL_changes_320 : decode cL_changes 320 = .ok (.goto 4, 3) := by decide +kernel
theorem dL_changes_323 : decode cL_changes 323 = .ok (.iconst 0, 1) := by decide +kernel
theorem dL_changes_324 : decode cL_changes 324 = .ok (.ireturn, 1) := by decide +kernel
theorem dL_changes_325 : decode cL_changes 325 = .ok (.iload_n 1, 1) := by decide +kernel
theorem dL_changes_326 : decode cL_changes 326 = .ok (.bipush 7, 2) := by decide +kernel
theorem dL_changes_328 : decode cL_changes 328 = .ok (.if_icmp .ne 88, 3) := by decide +kernel
theorem dL_changes_331 : decode cL_changes 331 = .ok (.aload_n 0, 1) := by decide +kernel
theorem dL_changes_332 : decode cL_changes 332 = .ok (.bipush 7, 2) := by decide +kernel
theorem dL_changes_334 : decode cL_changes 334 = .ok (.iconst 0, 1) := by decide +kernel
theorem dL_changes_335 : decode cL_changes 335 = .ok (.iconst 0, 1) := by decide +kernel
theorem dL_changes_336 : decode cL_changes 336 = .ok (.iconst 0, 1) := by decide +kernel
theorem dL_changes_337 : decode cL_changes 337 = .ok (.invokestatic 112, 3) := by decide +kernel
theorem dL_changes_340 : decode cL_changes 340 = .ok (.istore 8, 2) := by decide +kernel
theorem dL_changes_342 : decode cL_changes 342 = .ok (.aload 5, 2) := by decide +kernel
theorem dL_changes_344 : decode cL_changes 344 = .ok (.iconst 0, 1) := by decide +kernel
theorem dL_changes_345 : decode cL_changes 345 = .ok (.iaload, 1) := by decide +kernel
theorem dL_changes_346 : decode cL_changes 346 = .ok (.iconst 1, 1) := by decide +kernel
theorem dL_changes_347 : decode cL_changes 347 = .ok (.if_icmp .ne 7, 3) := by decide +kernel
theorem dL_changes_350 : decode cL_changes 350 = .ok (.iconst 1, 1) := by decide +kernel
theorem dL_changes_351 : decode cL_changes 351 = .ok (.goto 4, 3) := by decide +kernel
theorem dL_changes_354 : decode cL_changes 354 = .ok (.iconst 0, 1) := by decide +kernel
theorem dL_changes_355 : decode cL_changes 355 = .ok (.istore 9, 2) := by decide +kernel
theorem dL_changes_357 : decode cL_changes 357 = .ok (.aload 5, 2) := by decide +kernel
theorem dL_changes_359 : decode cL_changes 359 = .ok (.iconst 0, 1) := by decide +kernel
theorem dL_changes_360 : decode cL_changes 360 = .ok (.iload 9, 2) := by decide +kernel
theorem dL_changes_362 : decode cL_changes 362 = .ok (.ifCond .eq 7, 3) := by decide +kernel
theorem dL_changes_365 : decode cL_changes 365 = .ok (.iconst 0, 1) := by decide +kernel
theorem dL_changes_366 : decode cL_changes 366 = .ok (.goto 7, 3) := by decide +kernel
theorem dL_changes_369 : decode cL_changes 369 = .ok (.aload 5, 2) := by decide +kernel
theorem dL_changes_371 : decode cL_changes 371 = .ok (.iconst 0, 1) := by decide +kernel
theorem dL_changes_372 : decode cL_changes 372 = .ok (.iaload, 1) := by decide +kernel
theorem dL_changes_373 : decode cL_changes 373 = .ok (.iastore, 1) := by decide +kernel
theorem dL_changes_374 : decode cL_changes 374 = .ok (.aload 5, 2) := by decide +kernel
theorem dL_changes_376 : decode cL_changes 376 = .ok (.bipush 6, 2) := by decide +kernel
theorem dL_changes_378 : decode cL_changes 378 = .ok (.iload 9, 2) := by decide +kernel
theorem dL_changes_380 : decode cL_changes 380 = .ok (.ifCond .eq 7, 3) := by decide +kernel
theorem dL_changes_383 : decode cL_changes 383 = .ok (.iconst 0, 1) := by decide +kernel
theorem dL_changes_384 : decode cL_changes 384 = .ok (.goto 8, 3) := by decide +kernel
theorem dL_changes_387 : decode cL_changes 387 = .ok (.aload 5, 2) := by decide +kernel
theorem dL_changes_389 : decode cL_changes 389 = .ok (.bipush 6, 2) := by decide +kernel
theorem dL_changes_391 : decode cL_changes 391 = .ok (.iaload, 1) := by decide +kernel
theorem dL_changes_392 : decode cL_changes 392 = .ok (.iastore, 1) := by decide +kernel
theorem dL_changes_393 : decode cL_changes 393 = .ok (.iload 8, 2) := by decide +kernel
theorem dL_changes_395 : decode cL_changes 395 = .ok (.iload 9, 2) := by decide +kernel
theorem dL_changes_397 : decode cL_changes 397 = .ok (.ifCond .eq 8, 3) := by decide +kernel
theorem dL_changes_400 : decode cL_changes 400 = .ok (.iload 6, 2) := by decide +kernel
theorem dL_changes_402 : decode cL_changes 402 = .ok (.goto 5, 3) := by decide +kernel
theorem dL_changes_405 : decode cL_changes 405 = .ok (.bipush (-8), 2) := by decide +kernel
theorem dL_changes_407 : decode cL_changes 407 = .ok (.if_icmp .ne 7, 3) := by decide +kernel
theorem dL_changes_410 : decode cL_changes 410 = .ok (.iconst 1, 1) := by decide +kernel
theorem dL_changes_411 : decode cL_changes 411 = .ok (.goto 4, 3) := by decide +kernel
theorem dL_changes_414 : decode cL_changes 414 = .ok (.iconst 0, 1) := by decide +kernel
theorem dL_changes_415 : decode cL_changes 415 = .ok (.ireturn, 1) := by decide +kernel
theorem dL_changes_416 : decode cL_changes 416 = .ok (.iload_n 1, 1) := by decide +kernel
theorem dL_changes_417 : decode cL_changes 417 = .ok (.bipush 8, 2) := by decide +kernel
theorem dL_changes_419 : decode cL_changes 419 = .ok (.if_icmp .ne 73, 3) := by decide +kernel
theorem dL_changes_422 : decode cL_changes 422 = .ok (.aload 5, 2) := by decide +kernel
theorem dL_changes_424 : decode cL_changes 424 = .ok (.iconst 0, 1) := by decide +kernel
theorem dL_changes_425 : decode cL_changes 425 = .ok (.iaload, 1) := by decide +kernel
theorem dL_changes_426 : decode cL_changes 426 = .ok (.iconst 2, 1) := by decide +kernel
theorem dL_changes_427 : decode cL_changes 427 = .ok (.if_icmp .ne 7, 3) := by decide +kernel
theorem dL_changes_430 : decode cL_changes 430 = .ok (.iconst 1, 1) := by decide +kernel
theorem dL_changes_431 : decode cL_changes 431 = .ok (.goto 4, 3) := by decide +kernel
theorem dL_changes_434 : decode cL_changes 434 = .ok (.iconst 0, 1) := by decide +kernel
theorem dL_changes_435 : decode cL_changes 435 = .ok (.istore 8, 2) := by decide +kernel
theorem dL_changes_437 : decode cL_changes 437 = .ok (.aload 5, 2) := by decide +kernel
theorem dL_changes_439 : decode cL_changes 439 = .ok (.iconst 0, 1) := by decide +kernel
theorem dL_changes_440 : decode cL_changes 440 = .ok (.iload 8, 2) := by decide +kernel
theorem dL_changes_442 : decode cL_changes 442 = .ok (.ifCond .eq 7, 3) := by decide +kernel
theorem dL_changes_445 : decode cL_changes 445 = .ok (.iconst 1, 1) := by decide +kernel
theorem dL_changes_446 : decode cL_changes 446 = .ok (.goto 7, 3) := by decide +kernel
theorem dL_changes_449 : decode cL_changes 449 = .ok (.aload 5, 2) := by decide +kernel
theorem dL_changes_451 : decode cL_changes 451 = .ok (.iconst 0, 1) := by decide +kernel
theorem dL_changes_452 : decode cL_changes 452 = .ok (.iaload, 1) := by decide +kernel
theorem dL_changes_453 : decode cL_changes 453 = .ok (.iastore, 1) := by decide +kernel
theorem dL_changes_454 : decode cL_changes 454 = .ok (.aload_n 0, 1) := by decide +kernel
theorem dL_changes_455 : decode cL_changes 455 = .ok (.bipush 8, 2) := by decide +kernel
theorem dL_changes_457 : decode cL_changes 457 = .ok (.iconst 0, 1) := by decide +kernel
theorem dL_changes_458 : decode cL_changes 458 = .ok (.iconst 0, 1) := by decide +kernel
theorem dL_changes_459 : decode cL_changes 459 = .ok (.iconst 0, 1) := by decide +kernel
theorem dL_changes_460 : decode cL_changes 460 = .ok (.invokestatic 112, 3) := by decide +kernel
theorem dL_changes_463 : decode cL_changes 463 = .ok (.iload 8, 2) := by decide +kernel
theorem dL_changes_465 : decode cL_changes 465 = .ok (.ifCond .eq 7, 3) := by decide +kernel
theorem dL_changes_468 : decode cL_changes 468 = .ok (.iconst 0, 1) := by decide +kernel
theorem dL_changes_469 : decode cL_changes 469 = .ok (.goto 5, 3) := by decide +kernel
theorem dL_changes_472 : decode cL_changes 472 = .ok (.bipush (-8), 2) := by decide +kernel
theorem dL_changes_474 : decode cL_changes 474 = .ok (.if_icmp .ne 16, 3) := by decide +kernel
theorem dL_changes_477 : decode cL_changes 477 = .ok (.aload_n 0, 1) := by decide +kernel
theorem dL_changes_478 : decode cL_changes 478 = .ok (.invokevirtual 106, 3) := by decide +kernel
theorem dL_changes_481 : decode cL_changes 481 = .ok (.iload 6, 2) := by decide +kernel
theorem dL_changes_483 : decode cL_changes 483 = .ok (.if_icmp .ne 7, 3) := by decide +kernel
theorem dL_changes_486 : decode cL_changes 486 = .ok (.iconst 1, 1) := by decide +kernel
theorem dL_changes_487 : decode cL_changes 487 = .ok (.goto 4, 3) := by decide +kernel
theorem dL_changes_490 : decode cL_changes 490 = .ok (.iconst 0, 1) := by decide +kernel
end
section
theorem dL_changes_491 : decode cL_changes 491 = .ok (.ireturn, 1) := by decide +kernel
theorem dL_changes_492 : decode cL_changes 492 = .ok (.iload_n 2, 1) := by decide +kernel
theorem dL_changes_493 : decode cL_changes 493 = .ok (.iconst 3, 1) := by decide +kernel
theorem dL_changes_494 : decode cL_changes 494 = .ok (.irem, 1) := by decide +kernel
theorem dL_changes_495 : decode cL_changes 495 = .ok (.istore 8, 2) := by decide +kernel
theorem dL_changes_497 : decode cL_changes 497 = .ok (.iload_n 3, 1) := by decide +kernel
theorem dL_changes_498 : decode cL_changes 498 = .ok (.iconst 3, 1) := by decide +kernel
theorem dL_changes_499 : decode cL_changes 499 = .ok (.irem, 1) := by decide +kernel
theorem dL_changes_500 : decode cL_changes 500 = .ok (.ifCond .ne 13, 3) := by decide +kernel
theorem dL_changes_503 : decode cL_changes 503 = .ok (.iload_n 3, 1) := by decide +kernel
theorem dL_changes_504 : decode cL_changes 504 = .ok (.iconst 3, 1) := by decide +kernel
theorem dL_changes_505 : decode cL_changes 505 = .ok (.idiv, 1) := by decide +kernel
theorem dL_changes_506 : decode cL_changes 506 = .ok (.sipush 1000, 3) := by decide +kernel
theorem dL_changes_509 : decode cL_changes 509 = .ok (.irem, 1) := by decide +kernel
theorem dL_changes_510 : decode cL_changes 510 = .ok (.goto 14, 3) := by decide +kernel
theorem dL_changes_513 : decode cL_changes 513 = .ok (.sipush 300, 3) := by decide +kernel
theorem dL_changes_516 : decode cL_changes 516 = .ok (.iload_n 3, 1) := by decide +kernel
theorem dL_changes_517 : decode cL_changes 517 = .ok (.iconst 3, 1) := by decide +kernel
theorem dL_changes_518 : decode cL_changes 518 = .ok (.idiv, 1) := by decide +kernel
theorem dL_changes_519 : decode cL_changes 519 = .ok (.sipush 500, 3) := by decide +kernel
theorem dL_changes_522 : decode cL_changes 522 = .ok (.irem, 1) := by decide +kernel
theorem dL_changes_523 : decode cL_changes 523 = .ok (.iadd, 1) := by decide +kernel
theorem dL_changes_524 : decode cL_changes 524 = .ok (.istore 9, 2) := by decide +kernel
theorem dL_changes_526 : decode cL_changes 526 = .ok (.aload 5, 2) := by decide +kernel
theorem dL_changes_528 : decode cL_changes 528 = .ok (.iconst 0, 1) := by decide +kernel
theorem dL_changes_529 : decode cL_changes 529 = .ok (.iaload, 1) := by decide +kernel
theorem dL_changes_530 : decode cL_changes 530 = .ok (.ifCond .ne 7, 3) := by decide +kernel
theorem dL_changes_533 : decode cL_changes 533 = .ok (.iconst 1, 1) := by decide +kernel
theorem dL_changes_534 : decode cL_changes 534 = .ok (.goto 4, 3) := by decide +kernel
theorem dL_changes_537 : decode cL_changes 537 = .ok (.iconst 0, 1) := by decide +kernel
theorem dL_changes_538 : decode cL_changes 538 = .ok (.istore 10, 2) := by decide +kernel
theorem dL_changes_540 : decode cL_changes 540 = .ok (.iload 10, 2) := by decide +kernel
theorem dL_changes_542 : decode cL_changes 542 = .ok (.ifCond .eq 31, 3) := by decide +kernel
theorem dL_changes_545 : decode cL_changes 545 = .ok (.aload 5, 2) := by decide +kernel
theorem dL_changes_547 : decode cL_changes 547 = .ok (.iconst 0, 1) := by decide +kernel
theorem dL_changes_548 : decode cL_changes 548 = .ok (.iconst 1, 1) := by decide +kernel
theorem dL_changes_549 : decode cL_changes 549 = .ok (.iastore, 1) := by decide +kernel
theorem dL_changes_550 : decode cL_changes 550 = .ok (.aload 5, 2) := by decide +kernel
theorem dL_changes_552 : decode cL_changes 552 = .ok (.iconst 1, 1) := by decide +kernel
theorem dL_changes_553 : decode cL_changes 553 = .ok (.iload 8, 2) := by decide +kernel
theorem dL_changes_555 : decode cL_changes 555 = .ok (.iastore, 1) := by decide +kernel
theorem dL_changes_556 : decode cL_changes 556 = .ok (.aload 5, 2) := by decide +kernel
theorem dL_changes_558 : decode cL_changes 558 = .ok (.iconst 2, 1) := by decide +kernel
theorem dL_changes_559 : decode cL_changes 559 = .ok (.iload 9, 2) := by decide +kernel
theorem dL_changes_561 : decode cL_changes 561 = .ok (.iastore, 1) := by decide +kernel
theorem dL_changes_562 : decode cL_changes 562 = .ok (.aload 5, 2) := by decide +kernel
theorem dL_changes_564 : decode cL_changes 564 = .ok (.iconst 5, 1) := by decide +kernel
theorem dL_changes_565 : decode cL_changes 565 = .ok (.iconst 0, 1) := by decide +kernel
theorem dL_changes_566 : decode cL_changes 566 = .ok (.iastore, 1) := by decide +kernel
theorem dL_changes_567 : decode cL_changes 567 = .ok (.aload 5, 2) := by decide +kernel
theorem dL_changes_569 : decode cL_changes 569 = .ok (.bipush 6, 2) := by decide +kernel
theorem dL_changes_571 : decode cL_changes 571 = .ok (.iconst 0, 1) := by decide +kernel
theorem dL_changes_572 : decode cL_changes 572 = .ok (.iastore, 1) := by decide +kernel
theorem dL_changes_573 : decode cL_changes 573 = .ok (.aload_n 0, 1) := by decide +kernel
theorem dL_changes_574 : decode cL_changes 574 = .ok (.bipush 9, 2) := by decide +kernel
theorem dL_changes_576 : decode cL_changes 576 = .ok (.iload 8, 2) := by decide +kernel
theorem dL_changes_578 : decode cL_changes 578 = .ok (.iload 9, 2) := by decide +kernel
theorem dL_changes_580 : decode cL_changes 580 = .ok (.iconst 0, 1) := by decide +kernel
theorem dL_changes_581 : decode cL_changes 581 = .ok (.invokestatic 112, 3) := by decide +kernel
theorem dL_changes_584 : decode cL_changes 584 = .ok (.iload 10, 2) := by decide +kernel
theorem dL_changes_586 : decode cL_changes 586 = .ok (.ifCond .eq 7, 3) := by decide +kernel
theorem dL_changes_589 : decode cL_changes 589 = .ok (.iconst 0, 1) := by decide +kernel
theorem dL_changes_590 : decode cL_changes 590 = .ok (.goto 5, 3) := by decide +kernel
theorem dL_changes_593 : decode cL_changes 593 = .ok (.bipush (-8), 2) := by decide +kernel
theorem dL_changes_595 : decode cL_changes 595 = .ok (.if_icmp .ne 19, 3) := by decide +kernel
theorem dL_changes_598 : decode cL_changes 598 = .ok (.iload 10, 2) := by decide +kernel
theorem dL_changes_600 : decode cL_changes 600 = .ok (.ifCond .eq 10, 3) := by decide +kernel
theorem dL_changes_603 : decode cL_changes 603 = .ok (.aload_n 0, 1) := by decide +kernel
theorem dL_changes_604 : decode cL_changes 604 = .ok (.invokevirtual 106, 3) := by decide +kernel
theorem dL_changes_607 : decode cL_changes 607 = .ok (.ifCond .ne 7, 3) := by decide +kernel
theorem dL_changes_610 : decode cL_changes 610 = .ok (.iconst 1, 1) := by decide +kernel
theorem dL_changes_611 : decode cL_changes 611 = .ok (.goto 4, 3) := by decide +kernel
theorem dL_changes_614 : decode cL_changes 614 = .ok (.iconst 0, 1) := by decide +kernel
theorem dL_changes_615 : decode cL_changes 615 = .ok (.ireturn, 1) := by decide +kernel
theorem dL_step_0 : decode cL_step 0 = .ok (.iload_n 1, 1) := by decide +kernel
theorem dL_step_1 : decode cL_step 1 = .ok (.bipush 9, 2) := by decide +kernel
theorem dL_step_3 : decode cL_step 3 = .ok (.if_icmp .ge 102, 3) := by decide +kernel
theorem dL_step_6 : decode cL_step 6 = .ok (.iload_n 2, 1) := by decide +kernel
theorem dL_step_7 : decode cL_step 7 = .ok (.iconst 3, 1) := by decide +kernel
theorem dL_step_8 : decode cL_step 8 = .ok (.irem, 1) := by decide +kernel
theorem dL_step_9 : decode cL_step 9 = .ok (.ifCond .ne 12, 3) := by decide +kernel
theorem dL_step_12 : decode cL_step 12 = .ok (.iload_n 2, 1) := by decide +kernel
theorem dL_step_13 : decode cL_step 13 = .ok (.iconst 3, 1) := by decide +kernel
theorem dL_step_14 : decode cL_step 14 = .ok (.idiv, 1) := by decide +kernel
theorem dL_step_15 : decode cL_step 15 = .ok (.bipush 40, 2) := by decide +kernel
theorem dL_step_17 : decode cL_step 17 = .ok (.irem, 1) := by decide +kernel
theorem dL_step_18 : decode cL_step 18 = .ok (.goto 9, 3) := by decide +kernel
theorem dL_step_21 : decode cL_step 21 = .ok (.iload_n 2, 1) := by decide +kernel
theorem dL_step_22 : decode cL_step 22 = .ok (.iconst 3, 1) := by decide +kernel
theorem dL_step_23 : decode cL_step 23 = .ok (.idiv, 1) := by decide +kernel
theorem dL_step_24 : decode cL_step 24 = .ok (.bipush 12, 2) := by decide +kernel
theorem dL_step_26 : decode cL_step 26 = .ok (.irem, 1) := by decide +kernel
theorem dL_step_27 : decode cL_step 27 = .ok (.istore 6, 2) := by decide +kernel
theorem dL_step_29 : decode cL_step 29 = .ok (.iload_n 1, 1) := by decide +kernel
theorem dL_step_30 : decode cL_step 30 = .ok (.iconst 4, 1) := by decide +kernel
theorem dL_step_31 : decode cL_step 31 = .ok (.if_icmp .ge 7, 3) := by decide +kernel
theorem dL_step_34 : decode cL_step 34 = .ok (.iconst 0, 1) := by decide +kernel
theorem dL_step_35 : decode cL_step 35 = .ok (.goto 24, 3) := by decide +kernel
theorem dL_step_38 : decode cL_step 38 = .ok (.iload_n 1, 1) := by decide +kernel
theorem dL_step_39 : decode cL_step 39 = .ok (.bipush 6, 2) := by decide +kernel
theorem dL_step_41 : decode cL_step 41 = .ok (.if_icmp .ge 7, 3) := by decide +kernel
theorem dL_step_44 : decode cL_step 44 = .ok (.iconst 1, 1) := by decide +kernel
theorem dL_step_45 : decode cL_step 45 = .ok (.goto 14, 3) := by decide +kernel
theorem dL_step_48 : decode cL_step 48 = .ok (.iload_n 1, 1) := by decide +kernel
theorem dL_step_49 : decode cL_step 49 = .ok (.bipush 8, 2) := by decide +kernel
theorem dL_step_51 : decode cL_step 51 = .ok (.if_icmp .ge 7, 3) := by decide +kernel
theorem dL_step_54 : decode cL_step 54 = .ok (.iconst 2, 1) := by decide +kernel
theorem dL_step_55 : decode cL_step 55 = .ok (.goto 4, 3) := by decide +kernel
theorem dL_step_58 : decode cL_step 58 = .ok (.iconst 3, 1) := by decide +kernel
theorem dL_step_59 : decode cL_step 59 = .ok (.istore 7, 2) := by decide +kernel
theorem dL_step_61 : decode cL_step 61 = .ok (.aload_n 0, 1) := by decide +kernel
theorem dL_step_62 : decode cL_step 62 = .ok (.iload 7, 2) := by decide +kernel
theorem dL_step_64 : decode cL_step 64 = .ok (.iload 6, 2) := by decide +kernel
theorem dL_step_66 : decode cL_step 66 = .ok (.iload_n 3, 1) := by decide +kernel
theorem dL_step_67 : decode cL_step 67 = .ok (.iload 7, 2) := by decide +kernel
theorem dL_step_69 : decode cL_step 69 = .ok (.iconst 2, 1) := by decide +kernel
theorem dL_step_70 : decode cL_step 70 = .ok (.if_icmp .ne 14, 3) := by decide +kernel
theorem dL_step_73 : decode cL_step 73 = .ok (.iload_n 2, 1) := by decide +kernel
theorem dL_step_74 : decode cL_step 74 = .ok (.iconst 2, 1) := by decide +kernel
theorem dL_step_75 : decode cL_step 75 = .ok (.irem, 1) := by decide +kernel
theorem dL_step_76 : decode cL_step 76 = .ok (.ifCond .ne 8, 3) := by decide +kernel
theorem dL_step_79 : decode cL_step 79 = .ok (.bipush 12, 2) := by decide +kernel
theorem dL_step_81 : decode cL_step 81 = .ok (.goto 6, 3) := by decide +kernel
theorem dL_step_84 : decode cL_step 84 = .ok (.sipush 1000, 3) := by decide +kernel
theorem dL_step_87 : decode cL_step 87 = .ok (.irem, 1) := by decide +kernel
theorem dL_step_88 : decode cL_step 88 = .ok (.iload_n 3, 1) := by decide +kernel
theorem dL_step_89 : decode cL_step 89 = .ok (.sipush 1000, 3) := by decide +kernel
theorem dL_step_92 : decode cL_step 92 = .ok (.idiv, 1) := by decide +kernel
theorem dL_step_93 : decode cL_step 93 = .ok (.sipush 1000, 3) := by decide +kernel
theorem dL_step_96 : decode cL_step 96 = .ok (.irem, 1) := by decide +kernel
theorem dL_step_97 : decode cL_step 97 = .ok (.aload 4, 2) := by decide +kernel
theorem dL_step_99 : decode cL_step 99 = .ok (.aload 5, 2) := by decide +kernel
theorem dL_step_101 : decode cL_step 101 = .ok (.invokestatic 115, 3) := by decide +kernel
theorem dL_step_104 : decode cL_step 104 = .ok (.ireturn, 1) := by decide +kernel
theorem dL_step_105 : decode cL_step 105 = .ok (.iload_n 1, 1) := by decide +kernel
theorem dL_step_106 : decode cL_step 106 = .ok (.bipush 14, 2) := by decide +kernel
theorem dL_step_108 : decode cL_step 108 = .ok (.if_icmp .ge 32, 3) := by decide +kernel
theorem dL_step_111 : decode cL_step 111 = .ok (.aload_n 0, 1) := by decide +kernel
theorem dL_step_112 : decode cL_step 112 = .ok (.iload_n 3, 1) := by decide +kernel
theorem dL_step_113 : decode cL_step 113 = .ok (.iconst 5, 1) := by decide +kernel
theorem dL_step_114 : decode cL_step 114 = .ok (.irem, 1) := by decide +kernel
theorem dL_step_115 : decode cL_step 115 = .ok (.ifCond .ne 12, 3) := by decide +kernel
theorem dL_step_118 : decode cL_step 118 = .ok (.iload_n 3, 1) := by decide +kernel
theorem dL_step_119 : decode cL_step 119 = .ok (.iconst 5, 1) := by decide +kernel
theorem dL_step_120 : decode cL_step 120 = .ok (.idiv, 1) := by decide +kernel
theorem dL_step_121 : decode cL_step 121 = .ok (.bipush 40, 2) := by decide +kernel
theorem dL_step_123 : decode cL_step 123 = .ok (.irem, 1) := by decide +kernel
theorem dL_step_124 : decode cL_step 124 = .ok (.goto 8, 3) := by decide +kernel
theorem dL_step_127 : decode cL_step 127 = .ok (.iload_n 3, 1) := by decide +kernel
theorem dL_step_128 : decode cL_step 128 = .ok (.iconst 5, 1) := by decide +kernel
theorem dL_step_129 : decode cL_step 129 = .ok (.idiv, 1) := by decide +kernel
theorem dL_step_130 : decode cL_step 130 = .ok (.iconst 4, 1) := by decide +kernel
theorem dL_step_131 : decode cL_step 131 = .ok (.irem, 1) := by decide +kernel
theorem dL_step_132 : decode cL_step 132 = .ok (.aload 4, 2) := by decide +kernel
theorem dL_step_134 : decode cL_step 134 = .ok (.aload 5, 2) := by decide +kernel
theorem dL_step_136 : decode cL_step 136 = .ok (.invokestatic 119, 3) := by decide +kernel
theorem dL_step_139 : decode cL_step 139 = .ok (.ireturn, 1) := by decide +kernel
theorem dL_step_140 : decode cL_step 140 = .ok (.iload_n 1, 1) := by decide +kernel
theorem dL_step_141 : decode cL_step 141 = .ok (.bipush 14, 2) := by decide +kernel
theorem dL_step_143 : decode cL_step 143 = .ok (.if_icmp .ne 35, 3) := by decide +kernel
theorem dL_step_146 : decode cL_step 146 = .ok (.aload 5, 2) := by decide +kernel
theorem dL_step_148 : decode cL_step 148 = .ok (.iconst 3, 1) := by decide +kernel
theorem dL_step_149 : decode cL_step 149 = .ok (.iconst 1, 1) := by decide +kernel
theorem dL_step_150 : decode cL_step 150 = .ok (.iload_n 2, 1) := by decide +kernel
theorem dL_step_151 : decode cL_step 151 = .ok (.bipush 40, 2) := by decide +kernel
theorem dL_step_153 : decode cL_step 153 = .ok (.irem, 1) := by decide +kernel
theorem dL_step_154 : decode cL_step 154 = .ok (.iadd, 1) := by decide +kernel
theorem dL_step_155 : decode cL_step 155 = .ok (.iastore, 1) := by decide +kernel
theorem dL_step_156 : decode cL_step 156 = .ok (.aload 5, 2) := by decide +kernel
theorem dL_step_158 : decode cL_step 158 = .ok (.iconst 4, 1) := by decide +kernel
end
section
theorem dL_step_159 : decode cL_step 159 = .ok (.iload_n 3, 1) := by decide +kernel
theorem dL_step_160 : decode cL_step 160 = .ok (.bipush 21, 2) := by decide +kernel
theorem dL_step_162 : decode cL_step 162 = .ok (.irem, 1) := by decide +kernel
theorem dL_step_163 : decode cL_step 163 = .ok (.iastore, 1) := by decide +kernel
theorem dL_step_164 : decode cL_step 164 = .ok (.aload_n 0, 1) := by decide +kernel
theorem dL_step_165 : decode cL_step 165 = .ok (.aload 5, 2) := by decide +kernel
theorem dL_step_167 : decode cL_step 167 = .ok (.iconst 3, 1) := by decide +kernel
theorem dL_step_168 : decode cL_step 168 = .ok (.iaload, 1) := by decide +kernel
theorem dL_step_169 : decode cL_step 169 = .ok (.aload 5, 2) := by decide +kernel
theorem dL_step_171 : decode cL_step 171 = .ok (.iconst 4, 1) := by decide +kernel
theorem dL_step_172 : decode cL_step 172 = .ok (.iaload, 1) := by decide +kernel
theorem dL_step_173 : decode cL_step 173 = .ok (.invokevirtual 123, 3) := by decide +kernel
theorem dL_step_176 : decode cL_step 176 = .ok (.iconst 1, 1) := by decide +kernel
theorem dL_step_177 : decode cL_step 177 = .ok (.ireturn, 1) := by decide +kernel
theorem dL_step_178 : decode cL_step 178 = .ok (.iload_n 1, 1) := by decide +kernel
theorem dL_step_179 : decode cL_step 179 = .ok (.bipush 17, 2) := by decide +kernel
theorem dL_step_181 : decode cL_step 181 = .ok (.if_icmp .ge 8, 3) := by decide +kernel
theorem dL_step_184 : decode cL_step 184 = .ok (.bipush 9, 2) := by decide +kernel
theorem dL_step_186 : decode cL_step 186 = .ok (.goto 47, 3) := by decide +kernel
theorem dL_step_189 : decode cL_step 189 = .ok (.iload_n 1, 1) := by decide +kernel
theorem dL_step_190 : decode cL_step 190 = .ok (.bipush 17, 2) := by decide +kernel
theorem dL_step_192 : decode cL_step 192 = .ok (.if_icmp .ne 7, 3) := by decide +kernel
theorem dL_step_195 : decode cL_step 195 = .ok (.iconst 5, 1) := by decide +kernel
theorem dL_step_196 : decode cL_step 196 = .ok (.goto 37, 3) := by decide +kernel
theorem dL_step_199 : decode cL_step 199 = .ok (.iload_n 1, 1) := by decide +kernel
theorem dL_step_200 : decode cL_step 200 = .ok (.bipush 18, 2) := by decide +kernel
theorem dL_step_202 : decode cL_step 202 = .ok (.if_icmp .ne 8, 3) := by decide +kernel
theorem dL_step_205 : decode cL_step 205 = .ok (.bipush 6, 2) := by decide +kernel
theorem dL_step_207 : decode cL_step 207 = .ok (.goto 26, 3) := by decide +kernel
theorem dL_step_210 : decode cL_step 210 = .ok (.iload_n 1, 1) := by decide +kernel
theorem dL_step_211 : decode cL_step 211 = .ok (.bipush 19, 2) := by decide +kernel
theorem dL_step_213 : decode cL_step 213 = .ok (.if_icmp .ne 8, 3) := by decide +kernel
theorem dL_step_216 : decode cL_step 216 = .ok (.bipush 8, 2) := by decide +kernel
theorem dL_step_218 : decode cL_step 218 = .ok (.goto 15, 3) := by decide +kernel
theorem dL_step_221 : decode cL_step 221 = .ok (.iload_n 3, 1) := by decide +kernel
theorem dL_step_222 : decode cL_step 222 = .ok (.iconst 3, 1) := by decide +kernel
theorem dL_step_223 : decode cL_step 223 = .ok (.irem, 1) := by decide +kernel
theorem dL_step_224 : decode cL_step 224 = .ok (.ifCond .ne 8, 3) := by decide +kernel
theorem dL_step_227 : decode cL_step 227 = .ok (.bipush 7, 2) := by decide +kernel
theorem dL_step_229 : decode cL_step 229 = .ok (.goto 4, 3) := by decide +kernel
theorem dL_step_232 : decode cL_step 232 = .ok (.iconst 5, 1) := by decide +kernel
theorem dL_step_233 : decode cL_step 233 = .ok (.istore 6, 2) := by decide +kernel
theorem dL_step_235 : decode cL_step 235 = .ok (.aload_n 0, 1) := by decide +kernel
theorem dL_step_236 : decode cL_step 236 = .ok (.iload 6, 2) := by decide +kernel
theorem dL_step_238 : decode cL_step 238 = .ok (.iload_n 2, 1) := by decide +kernel
theorem dL_step_239 : decode cL_step 239 = .ok (.iload_n 3, 1) := by decide +kernel
theorem dL_step_240 : decode cL_step 240 = .ok (.aload 4, 2) := by decide +kernel
theorem dL_step_242 : decode cL_step 242 = .ok (.aload 5, 2) := by decide +kernel
theorem dL_step_244 : decode cL_step 244 = .ok (.invokestatic 126, 3) := by decide +kernel
theorem dL_step_247 : decode cL_step 247 = .ok (.ireturn, 1) := by decide +kernel
theorem dL_table_0 : decode cL_table 0 = .ok (.new 11, 3) := by decide +kernel
theorem dL_table_3 : decode cL_table 3 = .ok (.dup, 1) := by decide +kernel
theorem dL_table_4 : decode cL_table 4 = .ok (.invokespecial 130, 3) := by decide +kernel
theorem dL_table_7 : decode cL_table 7 = .ok (.astore_n 2, 1) := by decide +kernel
theorem dL_table_8 : decode cL_table 8 = .ok (.bipush 40, 2) := by decide +kernel
theorem dL_table_10 : decode cL_table 10 = .ok (.newarray .int, 2) := by decide +kernel
theorem dL_table_12 : decode cL_table 12 = .ok (.astore_n 3, 1) := by decide +kernel
theorem dL_table_13 : decode cL_table 13 = .ok (.bipush 7, 2) := by decide +kernel
theorem dL_table_15 : decode cL_table 15 = .ok (.newarray .int, 2) := by decide +kernel
theorem dL_table_17 : decode cL_table 17 = .ok (.astore 4, 2) := by decide +kernel
theorem dL_table_19 : decode cL_table 19 = .ok (.iconst 0, 1) := by decide +kernel
theorem dL_table_20 : decode cL_table 20 = .ok (.istore 5, 2) := by decide +kernel
theorem dL_table_22 : decode cL_table 22 = .ok (.iload 5, 2) := by decide +kernel
theorem dL_table_24 : decode cL_table 24 = .ok (.bipush 40, 2) := by decide +kernel
theorem dL_table_26 : decode cL_table 26 = .ok (.if_icmp .ge 14, 3) := by decide +kernel
theorem dL_table_29 : decode cL_table 29 = .ok (.aload_n 3, 1) := by decide +kernel
theorem dL_table_30 : decode cL_table 30 = .ok (.iload 5, 2) := by decide +kernel
theorem dL_table_32 : decode cL_table 32 = .ok (.iconst (-1), 1) := by decide +kernel
theorem dL_table_33 : decode cL_table 33 = .ok (.iastore, 1) := by decide +kernel
theorem dL_table_34 : decode cL_table 34 = .ok (.iinc 5 1, 3) := by decide +kernel
theorem dL_table_37 : decode cL_table 37 = .ok (.goto (-15), 3) := by decide +kernel
theorem dL_table_40 : decode cL_table 40 = .ok (.aload 4, 2) := by decide +kernel
theorem dL_table_42 : decode cL_table 42 = .ok (.iconst 3, 1) := by decide +kernel
theorem dL_table_43 : decode cL_table 43 = .ok (.bipush 8, 2) := by decide +kernel
theorem dL_table_45 : decode cL_table 45 = .ok (.iastore, 1) := by decide +kernel
theorem dL_table_46 : decode cL_table 46 = .ok (.aload 4, 2) := by decide +kernel
theorem dL_table_48 : decode cL_table 48 = .ok (.iconst 4, 1) := by decide +kernel
theorem dL_table_49 : decode cL_table 49 = .ok (.bipush 10, 2) := by decide +kernel
theorem dL_table_51 : decode cL_table 51 = .ok (.iastore, 1) := by decide +kernel
theorem dL_table_52 : decode cL_table 52 = .ok (.iconst 0, 1) := by decide +kernel
theorem dL_table_53 : decode cL_table 53 = .ok (.istore 5, 2) := by decide +kernel
theorem dL_table_55 : decode cL_table 55 = .ok (.iload 5, 2) := by decide +kernel
theorem dL_table_57 : decode cL_table 57 = .ok (.bipush 60, 2) := by decide +kernel
theorem dL_table_59 : decode cL_table 59 = .ok (.if_icmp .ge 106, 3) := by decide +kernel
theorem dL_table_62 : decode cL_table 62 = .ok (.aload_n 0, 1) := by decide +kernel
theorem dL_table_63 : decode cL_table 63 = .ok (.iload_n 1, 1) := by decide +kernel
theorem dL_table_64 : decode cL_table 64 = .ok (.iconst 3, 1) := by decide +kernel
theorem dL_table_65 : decode cL_table 65 = .ok (.iload 5, 2) := by decide +kernel
theorem dL_table_67 : decode cL_table 67 = .ok (.imul, 1) := by decide +kernel
theorem dL_table_68 : decode cL_table 68 = .ok (.iadd, 1) := by decide +kernel
theorem dL_table_69 : decode cL_table 69 = .ok (.iconst 1, 1) := by decide +kernel
theorem dL_table_70 : decode cL_table 70 = .ok (.iadd, 1) := by decide +kernel
theorem dL_table_71 : decode cL_table 71 = .ok (.ldc 131, 2) := by decide +kernel
theorem dL_table_73 : decode cL_table 73 = .ok (.invokestatic 132, 3) := by decide +kernel
theorem dL_table_76 : decode cL_table 76 = .ok (.istore 6, 2) := by decide +kernel
theorem dL_table_78 : decode cL_table 78 = .ok (.aload_n 0, 1) := by decide +kernel
theorem dL_table_79 : decode cL_table 79 = .ok (.iload_n 1, 1) := by decide +kernel
theorem dL_table_80 : decode cL_table 80 = .ok (.iconst 3, 1) := by decide +kernel
theorem dL_table_81 : decode cL_table 81 = .ok (.iload 5, 2) := by decide +kernel
theorem dL_table_83 : decode cL_table 83 = .ok (.imul, 1) := by decide +kernel
theorem dL_table_84 : decode cL_table 84 = .ok (.iadd, 1) := by decide +kernel
theorem dL_table_85 : decode cL_table 85 = .ok (.iconst 2, 1) := by decide +kernel
theorem dL_table_86 : decode cL_table 86 = .ok (.iadd, 1) := by decide +kernel
theorem dL_table_87 : decode cL_table 87 = .ok (.ldc 131, 2) := by decide +kernel
theorem dL_table_89 : decode cL_table 89 = .ok (.invokestatic 132, 3) := by decide +kernel
theorem dL_table_92 : decode cL_table 92 = .ok (.istore 7, 2) := by decide +kernel
theorem dL_table_94 : decode cL_table 94 = .ok (.iload 5, 2) := by decide +kernel
theorem dL_table_96 : decode cL_table 96 = .ok (.bipush 8, 2) := by decide +kernel
theorem dL_table_98 : decode cL_table 98 = .ok (.if_icmp .ge 7, 3) := by decide +kernel
theorem dL_table_101 : decode cL_table 101 = .ok (.iconst 0, 1) := by decide +kernel
theorem dL_table_102 : decode cL_table 102 = .ok (.goto 27, 3) := by decide +kernel
theorem dL_table_105 : decode cL_table 105 = .ok (.iload 5, 2) := by decide +kernel
theorem dL_table_107 : decode cL_table 107 = .ok (.bipush 8, 2) := by decide +kernel
theorem dL_table_109 : decode cL_table 109 = .ok (.if_icmp .ne 8, 3) := by decide +kernel
theorem dL_table_112 : decode cL_table 112 = .ok (.bipush 15, 2) := by decide +kernel
theorem dL_table_114 : decode cL_table 114 = .ok (.goto 15, 3) := by decide +kernel
theorem dL_table_117 : decode cL_table 117 = .ok (.aload_n 0, 1) := by decide +kernel
theorem dL_table_118 : decode cL_table 118 = .ok (.iload_n 1, 1) := by decide +kernel
theorem dL_table_119 : decode cL_table 119 = .ok (.iconst 3, 1) := by decide +kernel
theorem dL_table_120 : decode cL_table 120 = .ok (.iload 5, 2) := by decide +kernel
theorem dL_table_122 : decode cL_table 122 = .ok (.imul, 1) := by decide +kernel
theorem dL_table_123 : decode cL_table 123 = .ok (.iadd, 1) := by decide +kernel
theorem dL_table_124 : decode cL_table 124 = .ok (.bipush 21, 2) := by decide +kernel
theorem dL_table_126 : decode cL_table 126 = .ok (.invokestatic 132, 3) := by decide +kernel
theorem dL_table_129 : decode cL_table 129 = .ok (.istore 8, 2) := by decide +kernel
theorem dL_table_131 : decode cL_table 131 = .ok (.aload_n 2, 1) := by decide +kernel
theorem dL_table_132 : decode cL_table 132 = .ok (.iload 8, 2) := by decide +kernel
theorem dL_table_134 : decode cL_table 134 = .ok (.iload 6, 2) := by decide +kernel
theorem dL_table_136 : decode cL_table 136 = .ok (.iload 7, 2) := by decide +kernel
theorem dL_table_138 : decode cL_table 138 = .ok (.aload_n 3, 1) := by decide +kernel
theorem dL_table_139 : decode cL_table 139 = .ok (.aload 4, 2) := by decide +kernel
theorem dL_table_141 : decode cL_table 141 = .ok (.invokestatic 135, 3) := by decide +kernel
theorem dL_table_144 : decode cL_table 144 = .ok (.ifCond .eq 13, 3) := by decide +kernel
theorem dL_table_147 : decode cL_table 147 = .ok (.aload_n 2, 1) := by decide +kernel
theorem dL_table_148 : decode cL_table 148 = .ok (.aload_n 3, 1) := by decide +kernel
theorem dL_table_149 : decode cL_table 149 = .ok (.aload 4, 2) := by decide +kernel
theorem dL_table_151 : decode cL_table 151 = .ok (.invokestatic 138, 3) := by decide +kernel
theorem dL_table_154 : decode cL_table 154 = .ok (.ifCond .ne 5, 3) := by decide +kernel
theorem dL_table_157 : decode cL_table 157 = .ok (.iconst 0, 1) := by decide +kernel
theorem dL_table_158 : decode cL_table 158 = .ok (.ireturn, 1) := by decide +kernel
theorem dL_table_159 : decode cL_table 159 = .ok (.iinc 5 1, 3) := by decide +kernel
theorem dL_table_162 : decode cL_table 162 = .ok (.goto (-107), 3) := by decide +kernel
theorem dL_table_165 : decode cL_table 165 = .ok (.iconst 1, 1) := by decide +kernel
theorem dL_table_166 : decode cL_table 166 = .ok (.ireturn, 1) := by decide +kernel
end
section
theorem dL_law_0 : decode cL_law 0 = .ok (.aload_n 0, 1) := by decide +kernel
theorem dL_law_1 : decode cL_law 1 = .ok (.iconst 0, 1) := by decide +kernel
theorem dL_law_2 : decode cL_law 2 = .ok (.invokestatic 142, 3) := by decide +kernel
theorem dL_law_5 : decode cL_law 5 = .ok (.ifCond .eq 27, 3) := by decide +kernel
theorem dL_law_8 : decode cL_law 8 = .ok (.aload_n 0, 1) := by decide +kernel
theorem dL_law_9 : decode cL_law 9 = .ok (.sipush 185, 3) := by decide +kernel
theorem dL_law_12 : decode cL_law 12 = .ok (.invokestatic 142, 3) := by decide +kernel
theorem dL_law_15 : decode cL_law 15 = .ok (.ifCond .eq 17, 3) := by decide +kernel
theorem dL_law_18 : decode cL_law 18 = .ok (.aload_n 0, 1) := by decide +kernel
theorem dL_law_19 : decode cL_law 19 = .ok (.sipush 370, 3) := by decide +kernel
theorem dL_law_22 : decode cL_law 22 = .ok (.invokestatic 142, 3) := by decide +kernel
theorem dL_law_25 : decode cL_law 25 = .ok (.ifCond .eq 7, 3) := by decide +kernel
theorem dL_law_28 : decode cL_law 28 = .ok (.iconst 1, 1) := by decide +kernel
theorem dL_law_29 : decode cL_law 29 = .ok (.goto 4, 3) := by decide +kernel
theorem dL_law_32 : decode cL_law 32 = .ok (.iconst 0, 1) := by decide +kernel
theorem dL_law_33 : decode cL_law 33 = .ok (.ireturn, 1) := by decide +kernel
end
section
/-! MINE: the states of the class (XS), its cells (xw), a row an access. -/
abbrev XS : Type := (Nat → Int32) × (Nat → Int32) × (Nat → Int32) × (Nat → Int32) × (Nat → Int32) × (Nat → Int32) × (Nat → Int32) × Int32 × Int32 × Int32 × Int32 × Int32 × Int32 × Int32
def xA (v : XS) : Nat → Int32 := v.1
def xB (v : XS) : Nat → Int32 := v.2.1
def xC0 (v : XS) : Nat → Int32 := v.2.2.1
def xC1 (v : XS) : Nat → Int32 := v.2.2.2.1
def xC2 (v : XS) : Nat → Int32 := v.2.2.2.2.1
def xR (v : XS) : Nat → Int32 := v.2.2.2.2.2.1
def xN (v : XS) : Nat → Int32 := v.2.2.2.2.2.2.1
def xc (v : XS) : Int32 := v.2.2.2.2.2.2.2.1
def xp (v : XS) : Int32 := v.2.2.2.2.2.2.2.2.1
def xm (v : XS) : Int32 := v.2.2.2.2.2.2.2.2.2.1
def xt (v : XS) : Int32 := v.2.2.2.2.2.2.2.2.2.2.1
def xq (v : XS) : Int32 := v.2.2.2.2.2.2.2.2.2.2.2.1
def xk (v : XS) : Int32 := v.2.2.2.2.2.2.2.2.2.2.2.2.1
def xl (v : XS) : Int32 := v.2.2.2.2.2.2.2.2.2.2.2.2.2
def xUA (v : XS) (f : Nat → Int32) : XS := (f, v.2.1, v.2.2.1, v.2.2.2.1, v.2.2.2.2.1, v.2.2.2.2.2.1, v.2.2.2.2.2.2.1, v.2.2.2.2.2.2.2.1, v.2.2.2.2.2.2.2.2.1, v.2.2.2.2.2.2.2.2.2.1, v.2.2.2.2.2.2.2.2.2.2.1, v.2.2.2.2.2.2.2.2.2.2.2.1, v.2.2.2.2.2.2.2.2.2.2.2.2.1, v.2.2.2.2.2.2.2.2.2.2.2.2.2)
def xUB (v : XS) (f : Nat → Int32) : XS := (v.1, f, v.2.2.1, v.2.2.2.1, v.2.2.2.2.1, v.2.2.2.2.2.1, v.2.2.2.2.2.2.1, v.2.2.2.2.2.2.2.1, v.2.2.2.2.2.2.2.2.1, v.2.2.2.2.2.2.2.2.2.1, v.2.2.2.2.2.2.2.2.2.2.1, v.2.2.2.2.2.2.2.2.2.2.2.1, v.2.2.2.2.2.2.2.2.2.2.2.2.1, v.2.2.2.2.2.2.2.2.2.2.2.2.2)
def xUC0 (v : XS) (f : Nat → Int32) : XS := (v.1, v.2.1, f, v.2.2.2.1, v.2.2.2.2.1, v.2.2.2.2.2.1, v.2.2.2.2.2.2.1, v.2.2.2.2.2.2.2.1, v.2.2.2.2.2.2.2.2.1, v.2.2.2.2.2.2.2.2.2.1, v.2.2.2.2.2.2.2.2.2.2.1, v.2.2.2.2.2.2.2.2.2.2.2.1, v.2.2.2.2.2.2.2.2.2.2.2.2.1, v.2.2.2.2.2.2.2.2.2.2.2.2.2)
def xUC1 (v : XS) (f : Nat → Int32) : XS := (v.1, v.2.1, v.2.2.1, f, v.2.2.2.2.1, v.2.2.2.2.2.1, v.2.2.2.2.2.2.1, v.2.2.2.2.2.2.2.1, v.2.2.2.2.2.2.2.2.1, v.2.2.2.2.2.2.2.2.2.1, v.2.2.2.2.2.2.2.2.2.2.1, v.2.2.2.2.2.2.2.2.2.2.2.1, v.2.2.2.2.2.2.2.2.2.2.2.2.1, v.2.2.2.2.2.2.2.2.2.2.2.2.2)
def xUC2 (v : XS) (f : Nat → Int32) : XS := (v.1, v.2.1, v.2.2.1, v.2.2.2.1, f, v.2.2.2.2.2.1, v.2.2.2.2.2.2.1, v.2.2.2.2.2.2.2.1, v.2.2.2.2.2.2.2.2.1, v.2.2.2.2.2.2.2.2.2.1, v.2.2.2.2.2.2.2.2.2.2.1, v.2.2.2.2.2.2.2.2.2.2.2.1, v.2.2.2.2.2.2.2.2.2.2.2.2.1, v.2.2.2.2.2.2.2.2.2.2.2.2.2)
def xUR (v : XS) (f : Nat → Int32) : XS := (v.1, v.2.1, v.2.2.1, v.2.2.2.1, v.2.2.2.2.1, f, v.2.2.2.2.2.2.1, v.2.2.2.2.2.2.2.1, v.2.2.2.2.2.2.2.2.1, v.2.2.2.2.2.2.2.2.2.1, v.2.2.2.2.2.2.2.2.2.2.1, v.2.2.2.2.2.2.2.2.2.2.2.1, v.2.2.2.2.2.2.2.2.2.2.2.2.1, v.2.2.2.2.2.2.2.2.2.2.2.2.2)
def xUN (v : XS) (f : Nat → Int32) : XS := (v.1, v.2.1, v.2.2.1, v.2.2.2.1, v.2.2.2.2.1, v.2.2.2.2.2.1, f, v.2.2.2.2.2.2.2.1, v.2.2.2.2.2.2.2.2.1, v.2.2.2.2.2.2.2.2.2.1, v.2.2.2.2.2.2.2.2.2.2.1, v.2.2.2.2.2.2.2.2.2.2.2.1, v.2.2.2.2.2.2.2.2.2.2.2.2.1, v.2.2.2.2.2.2.2.2.2.2.2.2.2)
def xUc (v : XS) (f : Int32) : XS := (v.1, v.2.1, v.2.2.1, v.2.2.2.1, v.2.2.2.2.1, v.2.2.2.2.2.1, v.2.2.2.2.2.2.1, f, v.2.2.2.2.2.2.2.2.1, v.2.2.2.2.2.2.2.2.2.1, v.2.2.2.2.2.2.2.2.2.2.1, v.2.2.2.2.2.2.2.2.2.2.2.1, v.2.2.2.2.2.2.2.2.2.2.2.2.1, v.2.2.2.2.2.2.2.2.2.2.2.2.2)
def xUp (v : XS) (f : Int32) : XS := (v.1, v.2.1, v.2.2.1, v.2.2.2.1, v.2.2.2.2.1, v.2.2.2.2.2.1, v.2.2.2.2.2.2.1, v.2.2.2.2.2.2.2.1, f, v.2.2.2.2.2.2.2.2.2.1, v.2.2.2.2.2.2.2.2.2.2.1, v.2.2.2.2.2.2.2.2.2.2.2.1, v.2.2.2.2.2.2.2.2.2.2.2.2.1, v.2.2.2.2.2.2.2.2.2.2.2.2.2)
def xUm (v : XS) (f : Int32) : XS := (v.1, v.2.1, v.2.2.1, v.2.2.2.1, v.2.2.2.2.1, v.2.2.2.2.2.1, v.2.2.2.2.2.2.1, v.2.2.2.2.2.2.2.1, v.2.2.2.2.2.2.2.2.1, f, v.2.2.2.2.2.2.2.2.2.2.1, v.2.2.2.2.2.2.2.2.2.2.2.1, v.2.2.2.2.2.2.2.2.2.2.2.2.1, v.2.2.2.2.2.2.2.2.2.2.2.2.2)
def xUt (v : XS) (f : Int32) : XS := (v.1, v.2.1, v.2.2.1, v.2.2.2.1, v.2.2.2.2.1, v.2.2.2.2.2.1, v.2.2.2.2.2.2.1, v.2.2.2.2.2.2.2.1, v.2.2.2.2.2.2.2.2.1, v.2.2.2.2.2.2.2.2.2.1, f, v.2.2.2.2.2.2.2.2.2.2.2.1, v.2.2.2.2.2.2.2.2.2.2.2.2.1, v.2.2.2.2.2.2.2.2.2.2.2.2.2)
def xUq (v : XS) (f : Int32) : XS := (v.1, v.2.1, v.2.2.1, v.2.2.2.1, v.2.2.2.2.1, v.2.2.2.2.2.1, v.2.2.2.2.2.2.1, v.2.2.2.2.2.2.2.1, v.2.2.2.2.2.2.2.2.1, v.2.2.2.2.2.2.2.2.2.1, v.2.2.2.2.2.2.2.2.2.2.1, f, v.2.2.2.2.2.2.2.2.2.2.2.2.1, v.2.2.2.2.2.2.2.2.2.2.2.2.2)
def xUk (v : XS) (f : Int32) : XS := (v.1, v.2.1, v.2.2.1, v.2.2.2.1, v.2.2.2.2.1, v.2.2.2.2.2.1, v.2.2.2.2.2.2.1, v.2.2.2.2.2.2.2.1, v.2.2.2.2.2.2.2.2.1, v.2.2.2.2.2.2.2.2.2.1, v.2.2.2.2.2.2.2.2.2.2.1, v.2.2.2.2.2.2.2.2.2.2.2.1, f, v.2.2.2.2.2.2.2.2.2.2.2.2.2)
def xUl (v : XS) (f : Int32) : XS := (v.1, v.2.1, v.2.2.1, v.2.2.2.1, v.2.2.2.2.1, v.2.2.2.2.2.1, v.2.2.2.2.2.2.1, v.2.2.2.2.2.2.2.1, v.2.2.2.2.2.2.2.2.1, v.2.2.2.2.2.2.2.2.2.1, v.2.2.2.2.2.2.2.2.2.2.1, v.2.2.2.2.2.2.2.2.2.2.2.1, v.2.2.2.2.2.2.2.2.2.2.2.2.1, f)
def ktys (ca : Nat → ClassId) : List (ClassId × FieldType) := [(ca 0, .int), (ca 1, .boolean), (ca 2, .array .int)]
def xcols (ad : Nat → Nat) : Nat → Option Nat := fun i => if i < 3 then some (ad (4 + i)) else none
def xw (ad : Nat → Nat) (ca : Nat → ClassId) (v : XS) : va_W := [(ad 0, .inr (0, [.ref (ad 1), .ref (ad 2), .ref (ad 3), .ref (ad 7), .ref (ad 8), .int (xc v), .int (xp v), .int (xm v), .int (xt v), .int (xq v), .int (xk v), .int (xl v)])), (ad 1, .inl (ca 0, 40, .inl (xA v))), (ad 2, .inl (ca 0, 40, .inl (xB v))), (ad 3, .inl (ca 2, 3, .inr (.inr (.inr (.inr (xcols ad)))))), (ad 4, .inl (ca 0, 40, .inl (xC0 v))), (ad 5, .inl (ca 0, 40, .inl (xC1 v))), (ad 6, .inl (ca 0, 40, .inl (xC2 v))), (ad 7, .inl (ca 1, 40, .inl (xR v))), (ad 8, .inl (ca 0, 1024, .inl (xN v)))]
/-- what a body may use at every row: the machine, the code, the tables' words, the classes -/
def KC (p : Program) (c : Code) (cc : ByteArray) (s : State) (args : Array Value) (m : MethodId) (own : String) (D : va_G) (ca : Nat → ClassId) : Prop :=
  p.tables.exec = Jvm.exec ∧ c.code = cc ∧ s.vm.findClass own = some m.cls ∧ (∀ w ∈ WL, w.before args s = true) ∧ va_K D vwCl (ktys ca) s
/-- the world ws in the heap H, that came of H0 -/
def KI (D : va_G) (A : Nat → Prop) (ws : va_W) (H0 H : Heap) (locs : List Loc) : Prop := va_P D vwCl ws H ∧ va_D A ws ∧ va_S A H0 H locs ∧ ∀ q, H0.size ≤ q → A q
section KROWS
variable {p : Program} {l : Launch} {e : Env} {R : Room} {s : State} {m : MethodId} {args : Array Value} {below : List Frame} {meth : Method} {c : Code} {H : Heap} {locs : List Loc} {cells slots : Nat} {Q : State → Prop}
variable {cc : ByteArray} {pc : Nat} {ls : Array Slot} {rest : List Value} {D : va_G} {ca : Nat → ClassId} {A : Nat → Prop} {ad : Nat → Nat}
theorem xg_0 {v : XS} (cx : KC p c cc s args m RX0 D ca) (hI : KI D A (xw ad ca v) s.heap H locs) (hdg : decode cc pc = .ok (.getfield 9, 3)) (k : W p l e R s m args below meth c H locs cells slots Q (F0 m (pc + 3) ls (.ref (ad 1) :: rest))) : W p l e R s m args below meth c H locs cells slots Q (F0 m pc ls (.ref (ad 0) :: rest)) := va_get (D := D) (ci := 0) (v := .ref (ad 1)) (C := RX0) (T := TX0) (N := 12) cx.1 cx.2.1 cx.2.2.2.1 wk_X0 cx.2.2.1 cx.2.2.2.2 hI.1 0 rfl rfl 0 (by decide) (cx.2.2.2.1 _ wk_28) (fun _ h9 => h9) rfl hdg k
theorem xg_1 {v : XS} (cx : KC p c cc s args m RX0 D ca) (hI : KI D A (xw ad ca v) s.heap H locs) (hdg : decode cc pc = .ok (.getfield 13, 3)) (k : W p l e R s m args below meth c H locs cells slots Q (F0 m (pc + 3) ls (.ref (ad 2) :: rest))) : W p l e R s m args below meth c H locs cells slots Q (F0 m pc ls (.ref (ad 0) :: rest)) := va_get (D := D) (ci := 0) (v := .ref (ad 2)) (C := RX0) (T := TX0) (N := 12) cx.1 cx.2.1 cx.2.2.2.1 wk_X0 cx.2.2.1 cx.2.2.2.2 hI.1 0 rfl rfl 1 (by decide) (cx.2.2.2.1 _ wk_29) (fun _ h9 => h9) rfl hdg k
theorem xg_2 {v : XS} (cx : KC p c cc s args m RX0 D ca) (hI : KI D A (xw ad ca v) s.heap H locs) (hdg : decode cc pc = .ok (.getfield 18, 3)) (k : W p l e R s m args below meth c H locs cells slots Q (F0 m (pc + 3) ls (.ref (ad 3) :: rest))) : W p l e R s m args below meth c H locs cells slots Q (F0 m pc ls (.ref (ad 0) :: rest)) := va_get (D := D) (ci := 0) (v := .ref (ad 3)) (C := RX0) (T := TX0) (N := 12) cx.1 cx.2.1 cx.2.2.2.1 wk_X0 cx.2.2.1 cx.2.2.2.2 hI.1 0 rfl rfl 2 (by decide) (cx.2.2.2.1 _ wk_30) (fun _ h9 => h9) rfl hdg k
theorem xg_3 {v : XS} (cx : KC p c cc s args m RX0 D ca) (hI : KI D A (xw ad ca v) s.heap H locs) (hdg : decode cc pc = .ok (.getfield 21, 3)) (k : W p l e R s m args below meth c H locs cells slots Q (F0 m (pc + 3) ls (.ref (ad 7) :: rest))) : W p l e R s m args below meth c H locs cells slots Q (F0 m pc ls (.ref (ad 0) :: rest)) := va_get (D := D) (ci := 0) (v := .ref (ad 7)) (C := RX0) (T := TX0) (N := 12) cx.1 cx.2.1 cx.2.2.2.1 wk_X0 cx.2.2.1 cx.2.2.2.2 hI.1 0 rfl rfl 3 (by decide) (cx.2.2.2.1 _ wk_31) (fun _ h9 => h9) rfl hdg k
theorem xg_4 {v : XS} (cx : KC p c cc s args m RX0 D ca) (hI : KI D A (xw ad ca v) s.heap H locs) (hdg : decode cc pc = .ok (.getfield 25, 3)) (k : W p l e R s m args below meth c H locs cells slots Q (F0 m (pc + 3) ls (.ref (ad 8) :: rest))) : W p l e R s m args below meth c H locs cells slots Q (F0 m pc ls (.ref (ad 0) :: rest)) := va_get (D := D) (ci := 0) (v := .ref (ad 8)) (C := RX0) (T := TX0) (N := 12) cx.1 cx.2.1 cx.2.2.2.1 wk_X0 cx.2.2.1 cx.2.2.2.2 hI.1 0 rfl rfl 4 (by decide) (cx.2.2.2.1 _ wk_32) (fun _ h9 => h9) rfl hdg k
theorem xg_5 {v : XS} (cx : KC p c cc s args m RX0 D ca) (hI : KI D A (xw ad ca v) s.heap H locs) (hdg : decode cc pc = .ok (.getfield 134, 3)) (k : W p l e R s m args below meth c H locs cells slots Q (F0 m (pc + 3) ls (.int (xc v) :: rest))) : W p l e R s m args below meth c H locs cells slots Q (F0 m pc ls (.ref (ad 0) :: rest)) := va_get (D := D) (ci := 0) (v := .int (xc v)) (C := RX0) (T := TX0) (N := 12) cx.1 cx.2.1 cx.2.2.2.1 wk_X0 cx.2.2.1 cx.2.2.2.2 hI.1 0 rfl rfl 5 (by decide) (cx.2.2.2.1 _ wk_33) (fun _ h9 => h9) rfl hdg k
theorem xp_5 {v : XS} (cx : KC p c cc s args m RX0 D ca) (hI : KI D A (xw ad ca v) s.heap H locs) {y : Int32} (hdg : decode cc pc = .ok (.putfield 134, 3)) (k : ∀ (H : Heap) (locs : List Loc), KI D A (xw ad ca (xUc v y)) s.heap H locs → W p l e R s m args below meth c H locs cells slots Q (F0 m (pc + 3) ls rest)) : W p l e R s m args below meth c H locs cells slots Q (F0 m pc ls (.int y :: .ref (ad 0) :: rest)) := va_put (D := D) (ci := 0) (v := .int y) (ty := .int) (C := RX0) (T := TX0) (N := 12) cx.1 cx.2.1 cx.2.2.2.1 wk_X0 tyX0 tyX0_ok nmX0 cx.2.2.1 cx.2.2.2.2 hI.1 hI.2.1 hI.2.2.1 0 rfl rfl 5 (by decide) (cx.2.2.2.1 _ wk_33) (fun _ h9 => h9) rfl (by decide +kernel) rfl rfl (Nat.le_of_ble_eq_true rfl) hdg (fun H1 locs1 hP hD hS => k H1 locs1 ⟨hP, hD, hS, hI.2.2.2⟩)
theorem xg_6 {v : XS} (cx : KC p c cc s args m RX0 D ca) (hI : KI D A (xw ad ca v) s.heap H locs) (hdg : decode cc pc = .ok (.getfield 34, 3)) (k : W p l e R s m args below meth c H locs cells slots Q (F0 m (pc + 3) ls (.int (xp v) :: rest))) : W p l e R s m args below meth c H locs cells slots Q (F0 m pc ls (.ref (ad 0) :: rest)) := va_get (D := D) (ci := 0) (v := .int (xp v)) (C := RX0) (T := TX0) (N := 12) cx.1 cx.2.1 cx.2.2.2.1 wk_X0 cx.2.2.1 cx.2.2.2.2 hI.1 0 rfl rfl 6 (by decide) (cx.2.2.2.1 _ wk_34) (fun _ h9 => h9) rfl hdg k
theorem xp_6 {v : XS} (cx : KC p c cc s args m RX0 D ca) (hI : KI D A (xw ad ca v) s.heap H locs) {y : Int32} (hdg : decode cc pc = .ok (.putfield 34, 3)) (k : ∀ (H : Heap) (locs : List Loc), KI D A (xw ad ca (xUp v y)) s.heap H locs → W p l e R s m args below meth c H locs cells slots Q (F0 m (pc + 3) ls rest)) : W p l e R s m args below meth c H locs cells slots Q (F0 m pc ls (.int y :: .ref (ad 0) :: rest)) := va_put (D := D) (ci := 0) (v := .int y) (ty := .int) (C := RX0) (T := TX0) (N := 12) cx.1 cx.2.1 cx.2.2.2.1 wk_X0 tyX0 tyX0_ok nmX0 cx.2.2.1 cx.2.2.2.2 hI.1 hI.2.1 hI.2.2.1 0 rfl rfl 6 (by decide) (cx.2.2.2.1 _ wk_34) (fun _ h9 => h9) rfl (by decide +kernel) rfl rfl (Nat.le_of_ble_eq_true rfl) hdg (fun H1 locs1 hP hD hS => k H1 locs1 ⟨hP, hD, hS, hI.2.2.2⟩)
theorem xg_7 {v : XS} (cx : KC p c cc s args m RX0 D ca) (hI : KI D A (xw ad ca v) s.heap H locs) (hdg : decode cc pc = .ok (.getfield 121, 3)) (k : W p l e R s m args below meth c H locs cells slots Q (F0 m (pc + 3) ls (.int (xm v) :: rest))) : W p l e R s m args below meth c H locs cells slots Q (F0 m pc ls (.ref (ad 0) :: rest)) := va_get (D := D) (ci := 0) (v := .int (xm v)) (C := RX0) (T := TX0) (N := 12) cx.1 cx.2.1 cx.2.2.2.1 wk_X0 cx.2.2.1 cx.2.2.2.2 hI.1 0 rfl rfl 7 (by decide) (cx.2.2.2.1 _ wk_35) (fun _ h9 => h9) rfl hdg k
theorem xp_7 {v : XS} (cx : KC p c cc s args m RX0 D ca) (hI : KI D A (xw ad ca v) s.heap H locs) {y : Int32} (hdg : decode cc pc = .ok (.putfield 121, 3)) (k : ∀ (H : Heap) (locs : List Loc), KI D A (xw ad ca (xUm v y)) s.heap H locs → W p l e R s m args below meth c H locs cells slots Q (F0 m (pc + 3) ls rest)) : W p l e R s m args below meth c H locs cells slots Q (F0 m pc ls (.int y :: .ref (ad 0) :: rest)) := va_put (D := D) (ci := 0) (v := .int y) (ty := .int) (C := RX0) (T := TX0) (N := 12) cx.1 cx.2.1 cx.2.2.2.1 wk_X0 tyX0 tyX0_ok nmX0 cx.2.2.1 cx.2.2.2.2 hI.1 hI.2.1 hI.2.2.1 0 rfl rfl 7 (by decide) (cx.2.2.2.1 _ wk_35) (fun _ h9 => h9) rfl (by decide +kernel) rfl rfl (Nat.le_of_ble_eq_true rfl) hdg (fun H1 locs1 hP hD hS => k H1 locs1 ⟨hP, hD, hS, hI.2.2.2⟩)
theorem xg_8 {v : XS} (cx : KC p c cc s args m RX0 D ca) (hI : KI D A (xw ad ca v) s.heap H locs) (hdg : decode cc pc = .ok (.getfield 115, 3)) (k : W p l e R s m args below meth c H locs cells slots Q (F0 m (pc + 3) ls (.int (xt v) :: rest))) : W p l e R s m args below meth c H locs cells slots Q (F0 m pc ls (.ref (ad 0) :: rest)) := va_get (D := D) (ci := 0) (v := .int (xt v)) (C := RX0) (T := TX0) (N := 12) cx.1 cx.2.1 cx.2.2.2.1 wk_X0 cx.2.2.1 cx.2.2.2.2 hI.1 0 rfl rfl 8 (by decide) (cx.2.2.2.1 _ wk_36) (fun _ h9 => h9) rfl hdg k
theorem xp_8 {v : XS} (cx : KC p c cc s args m RX0 D ca) (hI : KI D A (xw ad ca v) s.heap H locs) {y : Int32} (hdg : decode cc pc = .ok (.putfield 115, 3)) (k : ∀ (H : Heap) (locs : List Loc), KI D A (xw ad ca (xUt v y)) s.heap H locs → W p l e R s m args below meth c H locs cells slots Q (F0 m (pc + 3) ls rest)) : W p l e R s m args below meth c H locs cells slots Q (F0 m pc ls (.int y :: .ref (ad 0) :: rest)) := va_put (D := D) (ci := 0) (v := .int y) (ty := .int) (C := RX0) (T := TX0) (N := 12) cx.1 cx.2.1 cx.2.2.2.1 wk_X0 tyX0 tyX0_ok nmX0 cx.2.2.1 cx.2.2.2.2 hI.1 hI.2.1 hI.2.2.1 0 rfl rfl 8 (by decide) (cx.2.2.2.1 _ wk_36) (fun _ h9 => h9) rfl (by decide +kernel) rfl rfl (Nat.le_of_ble_eq_true rfl) hdg (fun H1 locs1 hP hD hS => k H1 locs1 ⟨hP, hD, hS, hI.2.2.2⟩)
theorem xg_9 {v : XS} (cx : KC p c cc s args m RX0 D ca) (hI : KI D A (xw ad ca v) s.heap H locs) (hdg : decode cc pc = .ok (.getfield 118, 3)) (k : W p l e R s m args below meth c H locs cells slots Q (F0 m (pc + 3) ls (.int (xq v) :: rest))) : W p l e R s m args below meth c H locs cells slots Q (F0 m pc ls (.ref (ad 0) :: rest)) := va_get (D := D) (ci := 0) (v := .int (xq v)) (C := RX0) (T := TX0) (N := 12) cx.1 cx.2.1 cx.2.2.2.1 wk_X0 cx.2.2.1 cx.2.2.2.2 hI.1 0 rfl rfl 9 (by decide) (cx.2.2.2.1 _ wk_37) (fun _ h9 => h9) rfl hdg k
theorem xp_9 {v : XS} (cx : KC p c cc s args m RX0 D ca) (hI : KI D A (xw ad ca v) s.heap H locs) {y : Int32} (hdg : decode cc pc = .ok (.putfield 118, 3)) (k : ∀ (H : Heap) (locs : List Loc), KI D A (xw ad ca (xUq v y)) s.heap H locs → W p l e R s m args below meth c H locs cells slots Q (F0 m (pc + 3) ls rest)) : W p l e R s m args below meth c H locs cells slots Q (F0 m pc ls (.int y :: .ref (ad 0) :: rest)) := va_put (D := D) (ci := 0) (v := .int y) (ty := .int) (C := RX0) (T := TX0) (N := 12) cx.1 cx.2.1 cx.2.2.2.1 wk_X0 tyX0 tyX0_ok nmX0 cx.2.2.1 cx.2.2.2.2 hI.1 hI.2.1 hI.2.2.1 0 rfl rfl 9 (by decide) (cx.2.2.2.1 _ wk_37) (fun _ h9 => h9) rfl (by decide +kernel) rfl rfl (Nat.le_of_ble_eq_true rfl) hdg (fun H1 locs1 hP hD hS => k H1 locs1 ⟨hP, hD, hS, hI.2.2.2⟩)
theorem xg_10 {v : XS} (cx : KC p c cc s args m RX0 D ca) (hI : KI D A (xw ad ca v) s.heap H locs) (hdg : decode cc pc = .ok (.getfield 38, 3)) (k : W p l e R s m args below meth c H locs cells slots Q (F0 m (pc + 3) ls (.int (xk v) :: rest))) : W p l e R s m args below meth c H locs cells slots Q (F0 m pc ls (.ref (ad 0) :: rest)) := va_get (D := D) (ci := 0) (v := .int (xk v)) (C := RX0) (T := TX0) (N := 12) cx.1 cx.2.1 cx.2.2.2.1 wk_X0 cx.2.2.1 cx.2.2.2.2 hI.1 0 rfl rfl 10 (by decide) (cx.2.2.2.1 _ wk_38) (fun _ h9 => h9) rfl hdg k
theorem xp_10 {v : XS} (cx : KC p c cc s args m RX0 D ca) (hI : KI D A (xw ad ca v) s.heap H locs) {y : Int32} (hdg : decode cc pc = .ok (.putfield 38, 3)) (k : ∀ (H : Heap) (locs : List Loc), KI D A (xw ad ca (xUk v y)) s.heap H locs → W p l e R s m args below meth c H locs cells slots Q (F0 m (pc + 3) ls rest)) : W p l e R s m args below meth c H locs cells slots Q (F0 m pc ls (.int y :: .ref (ad 0) :: rest)) := va_put (D := D) (ci := 0) (v := .int y) (ty := .int) (C := RX0) (T := TX0) (N := 12) cx.1 cx.2.1 cx.2.2.2.1 wk_X0 tyX0 tyX0_ok nmX0 cx.2.2.1 cx.2.2.2.2 hI.1 hI.2.1 hI.2.2.1 0 rfl rfl 10 (by decide) (cx.2.2.2.1 _ wk_38) (fun _ h9 => h9) rfl (by decide +kernel) rfl rfl (Nat.le_of_ble_eq_true rfl) hdg (fun H1 locs1 hP hD hS => k H1 locs1 ⟨hP, hD, hS, hI.2.2.2⟩)
theorem xg_11 {v : XS} (cx : KC p c cc s args m RX0 D ca) (hI : KI D A (xw ad ca v) s.heap H locs) (hdg : decode cc pc = .ok (.getfield 41, 3)) (k : W p l e R s m args below meth c H locs cells slots Q (F0 m (pc + 3) ls (.int (xl v) :: rest))) : W p l e R s m args below meth c H locs cells slots Q (F0 m pc ls (.ref (ad 0) :: rest)) := va_get (D := D) (ci := 0) (v := .int (xl v)) (C := RX0) (T := TX0) (N := 12) cx.1 cx.2.1 cx.2.2.2.1 wk_X0 cx.2.2.1 cx.2.2.2.2 hI.1 0 rfl rfl 11 (by decide) (cx.2.2.2.1 _ wk_39) (fun _ h9 => h9) rfl hdg k
theorem xp_11 {v : XS} (cx : KC p c cc s args m RX0 D ca) (hI : KI D A (xw ad ca v) s.heap H locs) {y : Int32} (hdg : decode cc pc = .ok (.putfield 41, 3)) (k : ∀ (H : Heap) (locs : List Loc), KI D A (xw ad ca (xUl v y)) s.heap H locs → W p l e R s m args below meth c H locs cells slots Q (F0 m (pc + 3) ls rest)) : W p l e R s m args below meth c H locs cells slots Q (F0 m pc ls (.int y :: .ref (ad 0) :: rest)) := va_put (D := D) (ci := 0) (v := .int y) (ty := .int) (C := RX0) (T := TX0) (N := 12) cx.1 cx.2.1 cx.2.2.2.1 wk_X0 tyX0 tyX0_ok nmX0 cx.2.2.1 cx.2.2.2.2 hI.1 hI.2.1 hI.2.2.1 0 rfl rfl 11 (by decide) (cx.2.2.2.1 _ wk_39) (fun _ h9 => h9) rfl (by decide +kernel) rfl rfl (Nat.le_of_ble_eq_true rfl) hdg (fun H1 locs1 hP hD hS => k H1 locs1 ⟨hP, hD, hS, hI.2.2.2⟩)
theorem xa_A {v : XS} (cx : KC p c cc s args m RX0 D ca) (hI : KI D A (xw ad ca v) s.heap H locs) {i : Int32} (hin : vp_in i 40) (hdg : decode cc pc = .ok (.iaload, 1)) (k : W p l e R s m args below meth c H locs cells slots Q (F0 m (pc + 1) ls (.int (xA v i.toNatClampNeg) :: rest))) : W p l e R s m args below meth c H locs cells slots Q (F0 m pc ls (.int i :: .ref (ad 1) :: rest)) := va_iald cx.1 cx.2.1 cx.2.2.2.2 hI.1 1 0 rfl rfl hin hdg k
theorem xs_A {v : XS} (cx : KC p c cc s args m RX0 D ca) (hI : KI D A (xw ad ca v) s.heap H locs) {i y : Int32} (hin : vp_in i 40) (hdg : decode cc pc = .ok (.iastore, 1)) (k : ∀ (H : Heap) (locs : List Loc), KI D A (xw ad ca (xUA v (upd (xA v) i.toNatClampNeg y))) s.heap H locs → W p l e R s m args below meth c H locs cells slots Q (F0 m (pc + 1) ls rest)) : W p l e R s m args below meth c H locs cells slots Q (F0 m pc ls (.int y :: .int i :: .ref (ad 1) :: rest)) := va_iast cx.1 cx.2.1 cx.2.2.2.2 hI.1 hI.2.1 hI.2.2.1 1 0 rfl rfl hin hdg (fun H1 locs1 hP hD hS => k H1 locs1 ⟨hP, hD, hS, hI.2.2.2⟩)
theorem xa_B {v : XS} (cx : KC p c cc s args m RX0 D ca) (hI : KI D A (xw ad ca v) s.heap H locs) {i : Int32} (hin : vp_in i 40) (hdg : decode cc pc = .ok (.iaload, 1)) (k : W p l e R s m args below meth c H locs cells slots Q (F0 m (pc + 1) ls (.int (xB v i.toNatClampNeg) :: rest))) : W p l e R s m args below meth c H locs cells slots Q (F0 m pc ls (.int i :: .ref (ad 2) :: rest)) := va_iald cx.1 cx.2.1 cx.2.2.2.2 hI.1 2 0 rfl rfl hin hdg k
theorem xs_B {v : XS} (cx : KC p c cc s args m RX0 D ca) (hI : KI D A (xw ad ca v) s.heap H locs) {i y : Int32} (hin : vp_in i 40) (hdg : decode cc pc = .ok (.iastore, 1)) (k : ∀ (H : Heap) (locs : List Loc), KI D A (xw ad ca (xUB v (upd (xB v) i.toNatClampNeg y))) s.heap H locs → W p l e R s m args below meth c H locs cells slots Q (F0 m (pc + 1) ls rest)) : W p l e R s m args below meth c H locs cells slots Q (F0 m pc ls (.int y :: .int i :: .ref (ad 2) :: rest)) := va_iast cx.1 cx.2.1 cx.2.2.2.2 hI.1 hI.2.1 hI.2.2.1 2 0 rfl rfl hin hdg (fun H1 locs1 hP hD hS => k H1 locs1 ⟨hP, hD, hS, hI.2.2.2⟩)
theorem xa_C0 {v : XS} (cx : KC p c cc s args m RX0 D ca) (hI : KI D A (xw ad ca v) s.heap H locs) {i : Int32} (hin : vp_in i 40) (hdg : decode cc pc = .ok (.iaload, 1)) (k : W p l e R s m args below meth c H locs cells slots Q (F0 m (pc + 1) ls (.int (xC0 v i.toNatClampNeg) :: rest))) : W p l e R s m args below meth c H locs cells slots Q (F0 m pc ls (.int i :: .ref (ad 4) :: rest)) := va_iald cx.1 cx.2.1 cx.2.2.2.2 hI.1 4 0 rfl rfl hin hdg k
theorem xs_C0 {v : XS} (cx : KC p c cc s args m RX0 D ca) (hI : KI D A (xw ad ca v) s.heap H locs) {i y : Int32} (hin : vp_in i 40) (hdg : decode cc pc = .ok (.iastore, 1)) (k : ∀ (H : Heap) (locs : List Loc), KI D A (xw ad ca (xUC0 v (upd (xC0 v) i.toNatClampNeg y))) s.heap H locs → W p l e R s m args below meth c H locs cells slots Q (F0 m (pc + 1) ls rest)) : W p l e R s m args below meth c H locs cells slots Q (F0 m pc ls (.int y :: .int i :: .ref (ad 4) :: rest)) := va_iast cx.1 cx.2.1 cx.2.2.2.2 hI.1 hI.2.1 hI.2.2.1 4 0 rfl rfl hin hdg (fun H1 locs1 hP hD hS => k H1 locs1 ⟨hP, hD, hS, hI.2.2.2⟩)
theorem xa_C1 {v : XS} (cx : KC p c cc s args m RX0 D ca) (hI : KI D A (xw ad ca v) s.heap H locs) {i : Int32} (hin : vp_in i 40) (hdg : decode cc pc = .ok (.iaload, 1)) (k : W p l e R s m args below meth c H locs cells slots Q (F0 m (pc + 1) ls (.int (xC1 v i.toNatClampNeg) :: rest))) : W p l e R s m args below meth c H locs cells slots Q (F0 m pc ls (.int i :: .ref (ad 5) :: rest)) := va_iald cx.1 cx.2.1 cx.2.2.2.2 hI.1 5 0 rfl rfl hin hdg k
theorem xs_C1 {v : XS} (cx : KC p c cc s args m RX0 D ca) (hI : KI D A (xw ad ca v) s.heap H locs) {i y : Int32} (hin : vp_in i 40) (hdg : decode cc pc = .ok (.iastore, 1)) (k : ∀ (H : Heap) (locs : List Loc), KI D A (xw ad ca (xUC1 v (upd (xC1 v) i.toNatClampNeg y))) s.heap H locs → W p l e R s m args below meth c H locs cells slots Q (F0 m (pc + 1) ls rest)) : W p l e R s m args below meth c H locs cells slots Q (F0 m pc ls (.int y :: .int i :: .ref (ad 5) :: rest)) := va_iast cx.1 cx.2.1 cx.2.2.2.2 hI.1 hI.2.1 hI.2.2.1 5 0 rfl rfl hin hdg (fun H1 locs1 hP hD hS => k H1 locs1 ⟨hP, hD, hS, hI.2.2.2⟩)
theorem xa_C2 {v : XS} (cx : KC p c cc s args m RX0 D ca) (hI : KI D A (xw ad ca v) s.heap H locs) {i : Int32} (hin : vp_in i 40) (hdg : decode cc pc = .ok (.iaload, 1)) (k : W p l e R s m args below meth c H locs cells slots Q (F0 m (pc + 1) ls (.int (xC2 v i.toNatClampNeg) :: rest))) : W p l e R s m args below meth c H locs cells slots Q (F0 m pc ls (.int i :: .ref (ad 6) :: rest)) := va_iald cx.1 cx.2.1 cx.2.2.2.2 hI.1 6 0 rfl rfl hin hdg k
theorem xs_C2 {v : XS} (cx : KC p c cc s args m RX0 D ca) (hI : KI D A (xw ad ca v) s.heap H locs) {i y : Int32} (hin : vp_in i 40) (hdg : decode cc pc = .ok (.iastore, 1)) (k : ∀ (H : Heap) (locs : List Loc), KI D A (xw ad ca (xUC2 v (upd (xC2 v) i.toNatClampNeg y))) s.heap H locs → W p l e R s m args below meth c H locs cells slots Q (F0 m (pc + 1) ls rest)) : W p l e R s m args below meth c H locs cells slots Q (F0 m pc ls (.int y :: .int i :: .ref (ad 6) :: rest)) := va_iast cx.1 cx.2.1 cx.2.2.2.2 hI.1 hI.2.1 hI.2.2.1 6 0 rfl rfl hin hdg (fun H1 locs1 hP hD hS => k H1 locs1 ⟨hP, hD, hS, hI.2.2.2⟩)
theorem xa_R {v : XS} (cx : KC p c cc s args m RX0 D ca) (hI : KI D A (xw ad ca v) s.heap H locs) {i : Int32} (hin : vp_in i 40) (hdg : decode cc pc = .ok (.baload, 1)) (k : W p l e R s m args below meth c H locs cells slots Q (F0 m (pc + 1) ls (.int (xR v i.toNatClampNeg) :: rest))) : W p l e R s m args below meth c H locs cells slots Q (F0 m pc ls (.int i :: .ref (ad 7) :: rest)) := va_zald cx.1 cx.2.1 cx.2.2.2.2 hI.1 7 1 rfl rfl hin hdg k
theorem xs_R {v : XS} (cx : KC p c cc s args m RX0 D ca) (hI : KI D A (xw ad ca v) s.heap H locs) {i y : Int32} (hin : vp_in i 40) (hdg : decode cc pc = .ok (.bastore, 1)) (k : ∀ (H : Heap) (locs : List Loc), KI D A (xw ad ca (xUR v (upd (xR v) i.toNatClampNeg (vp_nar .boolean y)))) s.heap H locs → W p l e R s m args below meth c H locs cells slots Q (F0 m (pc + 1) ls rest)) : W p l e R s m args below meth c H locs cells slots Q (F0 m pc ls (.int y :: .int i :: .ref (ad 7) :: rest)) := va_zast cx.1 cx.2.1 cx.2.2.2.2 hI.1 hI.2.1 hI.2.2.1 7 1 rfl rfl hin hdg (fun H1 locs1 hP hD hS => k H1 locs1 ⟨hP, hD, hS, hI.2.2.2⟩)
theorem xa_N {v : XS} (cx : KC p c cc s args m RX0 D ca) (hI : KI D A (xw ad ca v) s.heap H locs) {i : Int32} (hin : vp_in i 1024) (hdg : decode cc pc = .ok (.iaload, 1)) (k : W p l e R s m args below meth c H locs cells slots Q (F0 m (pc + 1) ls (.int (xN v i.toNatClampNeg) :: rest))) : W p l e R s m args below meth c H locs cells slots Q (F0 m pc ls (.int i :: .ref (ad 8) :: rest)) := va_iald cx.1 cx.2.1 cx.2.2.2.2 hI.1 8 0 rfl rfl hin hdg k
theorem xs_N {v : XS} (cx : KC p c cc s args m RX0 D ca) (hI : KI D A (xw ad ca v) s.heap H locs) {i y : Int32} (hin : vp_in i 1024) (hdg : decode cc pc = .ok (.iastore, 1)) (k : ∀ (H : Heap) (locs : List Loc), KI D A (xw ad ca (xUN v (upd (xN v) i.toNatClampNeg y))) s.heap H locs → W p l e R s m args below meth c H locs cells slots Q (F0 m (pc + 1) ls rest)) : W p l e R s m args below meth c H locs cells slots Q (F0 m pc ls (.int y :: .int i :: .ref (ad 8) :: rest)) := va_iast cx.1 cx.2.1 cx.2.2.2.2 hI.1 hI.2.1 hI.2.2.1 8 0 rfl rfl hin hdg (fun H1 locs1 hP hD hS => k H1 locs1 ⟨hP, hD, hS, hI.2.2.2⟩)
/-- a column's array out of the array of them -/
theorem xa_cols {v : XS} (cx : KC p c cc s args m RX0 D ca) (hI : KI D A (xw ad ca v) s.heap H locs) {i : Int32} (hin : vp_in i 3) (hdg : decode cc pc = .ok (.aaload, 1)) (k : W p l e R s m args below meth c H locs cells slots Q (F0 m (pc + 1) ls (.ref (ad (4 + i.toNatClampNeg)) :: rest))) : W p l e R s m args below meth c H locs cells slots Q (F0 m pc ls (.int i :: .ref (ad 3) :: rest)) := by
  have hlt : i.toNatClampNeg < 3 := Nat.not_le.mp fun q => hin (Or.inr q)
  have hv : va_rf (xcols ad i.toNatClampNeg) = .ref (ad (4 + i.toNatClampNeg)) := by simp [xcols, hlt, va_rf]
  refine W.aald (v := va_rf (xcols ad i.toNatClampNeg)) (ty := .array .int) cx.1 cx.2.1 (hI.1 3 _ rfl) ((cx.2.2.2.2.2 2 _ rfl).1 3 (fun j => va_rf (xcols ad j))) rfl (fun q => by cases q) (by show ¬ (i < 0 ∨ (arrV _ _ _).slots.size ≤ _); rw [arrV_size]; exact hin) (by show (arrV _ _ _).slots[_]? = _; rw [arrV_read _ _ hlt]) rfl rfl hdg ?_
  rw [hv]
  exact k
end KROWS
end
section
/-! MINE: contracts in one form (CM returns, CX returns or throws, CH catches), and one row a call, with the frame around it. -/
section KFRAME
variable {D : va_G} {cl : List vw_C} {A : Nat → Prop} {pre w post w' ws ws' : va_W} {H H1 H0 : Heap} {locs : List Loc}
theorem kf_P (hP : va_P D cl (pre ++ (w ++ post)) H) (hD : va_D A (pre ++ (w ++ post))) (hk : ∀ q, q < H.size → ¬ va_A w H.size q → H1[q]? = H[q]?) (hP1 : va_P D cl w' H1) : va_P D cl (pre ++ (w' ++ post)) H1 := by
  have out : ∀ (i : Nat) (q : Nat × va_E), (pre ++ (w ++ post))[i]? = some q → (i < pre.length ∨ pre.length + w.length ≤ i) → va_at D cl q H1 := by
    intro i q hi hout
    have h := hP i q hi
    refine h.kept (hk q.1 h.lt ?_)
    rintro (⟨k, e, hk⟩ | hz)
    · have hkl : k < w.length := (List.getElem?_eq_some_iff.mp hk).1
      have h2 : (pre ++ (w ++ post))[pre.length + k]? = some (q.1, e) := by
        rw [List.getElem?_append_right (by omega), show pre.length + k - pre.length = k by omega, List.getElem?_append_left hkl]
        exact hk
      have := hD.1 i (pre.length + k) q (q.1, e) hi h2 rfl
      omega
    · exact absurd h.lt (Nat.not_lt.mpr hz)
  intro k q hq
  by_cases h1 : k < pre.length
  · rw [List.getElem?_append_left h1] at hq
    exact out k q (by rw [List.getElem?_append_left h1]; exact hq) (Or.inl h1)
  · rw [List.getElem?_append_right (by omega)] at hq
    by_cases h2 : k - pre.length < w'.length
    · rw [List.getElem?_append_left h2] at hq
      exact hP1 _ q hq
    · rw [List.getElem?_append_right (by omega)] at hq
      refine out (pre.length + (w.length + (k - pre.length - w'.length))) q ?_ (Or.inr (by omega))
      rw [List.getElem?_append_right (by omega), show pre.length + (w.length + (k - pre.length - w'.length)) - pre.length = w.length + (k - pre.length - w'.length) by omega, List.getElem?_append_right (by omega), show w.length + (k - pre.length - w'.length) - w.length = k - pre.length - w'.length by omega]
      exact hq
theorem kf_D (h : ws'.map Prod.fst = ws.map Prod.fst) (hD : va_D A ws) : va_D A ws' := by
  have g : ∀ (k : Nat) (q : Nat × va_E), ws'[k]? = some q → ∃ q0, ws[k]? = some q0 ∧ q0.1 = q.1 := by
    intro k q hk
    have e : (ws'.map Prod.fst)[k]? = (ws.map Prod.fst)[k]? := by rw [h]
    rw [List.getElem?_map, List.getElem?_map, hk] at e
    cases hw : ws[k]? with
    | none => rw [hw] at e; cases e
    | some q0 => rw [hw] at e; exact ⟨q0, rfl, (Option.some.inj e).symm⟩
  refine ⟨fun i j p q hi hj hpq => ?_, fun k q hk => ?_⟩
  · obtain ⟨p0, h1, h2⟩ := g i p hi
    obtain ⟨q0, h3, h4⟩ := g j q hj
    exact hD.1 i j p0 q0 h1 h3 (by rw [h2, h4, hpq])
  · obtain ⟨q0, h1, h2⟩ := g k q hk
    rw [← h2]
    exact hD.2 k q0 h1
theorem kf_Dw (had : w'.map Prod.fst = w.map Prod.fst) (hD : va_D A (pre ++ (w ++ post))) : va_D A (pre ++ (w' ++ post)) :=
  kf_D (by rw [List.map_append, List.map_append, List.map_append, List.map_append, had]) hD
theorem kf_at (hP : va_P D cl (pre ++ (w ++ post)) H) : va_P D cl w H := fun k q hk => by
  have hkl : k < w.length := (List.getElem?_eq_some_iff.mp hk).1
  refine hP (pre.length + k) q ?_
  rw [List.getElem?_append_right (by omega), show pre.length + k - pre.length = k by omega, List.getElem?_append_left hkl]
  exact hk
theorem kf_Dat (hD : va_D A (pre ++ (w ++ post))) : va_D A w := by
  have g : ∀ (k : Nat) (q : Nat × va_E), w[k]? = some q → (pre ++ (w ++ post))[pre.length + k]? = some q := by
    intro k q hk
    have hkl : k < w.length := (List.getElem?_eq_some_iff.mp hk).1
    rw [List.getElem?_append_right (by omega), show pre.length + k - pre.length = k by omega, List.getElem?_append_left hkl]
    exact hk
  refine ⟨fun i j p q hi hj hpq => ?_, fun k q hk => hD.2 _ q (g k q hk)⟩
  have := hD.1 _ _ p q (g i p hi) (g j q hj) hpq
  omega
theorem kf_free (hD : va_D A (pre ++ (w ++ post))) (hS : va_S A H0 H locs) (hA : ∀ q, H0.size ≤ q → A q) : ∀ q, va_A w H.size q → A q := by
  rintro q (⟨k, e, hk⟩ | h)
  · exact (kf_Dat hD).2 k (q, e) hk
  · exact hA q (Nat.le_trans hS.1 h)
end KFRAME
/-- the words that throwing and catching want of the tables, and that a warmed state keeps one by one -/
def kws : List Cond := [.castable "java/lang/IndexOutOfBoundsException" "java/lang/IndexOutOfBoundsException", .castable "java/lang/IllegalArgumentException" "java/lang/IllegalArgumentException", .castable "java/lang/IllegalStateException" "java/lang/IllegalStateException", .castable "java/util/NoSuchElementException" "java/util/NoSuchElementException", .declares (Bundle.initS "java/lang/RuntimeException"), .declares (Bundle.initS "java/lang/Exception"), .declares (Bundle.initS "java/lang/Throwable")]
theorem kws_warm {s U : State} (hW : s.WarmedH U.vm) (h : ∀ w ∈ kws, va_Nw w s) : ∀ w ∈ kws, va_Nw w U := by
  intro w hw
  have h1 := h w hw
  simp only [kws, List.mem_cons, List.not_mem_nil, or_false] at hw
  rcases hw with rfl | rfl | rfl | rfl | rfl | rfl | rfl
  · exact va_Nw.warmC hW h1
  · exact va_Nw.warmC hW h1
  · exact va_Nw.warmC hW h1
  · exact va_Nw.warmC hW h1
  · exact va_Nw.warmD hW h1
  · exact va_Nw.warmD hW h1
  · exact va_Nw.warmD hW h1
theorem kws_same {u U : State} (hvm : u.vm = U.vm) (h : ∀ w ∈ kws, va_Nw w u) : ∀ w ∈ kws, va_Nw w U := by
  intro w hw
  have h1 := h w hw
  simp only [kws, List.mem_cons, List.not_mem_nil, or_false] at hw
  rcases hw with rfl | rfl | rfl | rfl | rfl | rfl | rfl <;> exact va_Nw.same rfl hvm h1
/-- the class's texts: entry of its pool, text -/
def kstrs : List (Nat × String) := [(50, "there is no such key"), (61, "a or b is out of range, or the row does not fit"), (69, "there is a row with this key"), (82, "there is no row with this key"), (92, "both keys are the same"), (94, "there is no row with the first key"), (96, "there is a row with the other key"), (111, "alteration or parameter is out of range"), (113, "the phase is not IDLE"), (124, "chunk or lag is out of range"), (126, "lag is out of range"), (128, "the phase is not COPYING"), (140, "most is out of range"), (142, "not COPYING, the mark is not 40, or more notes"), (144, "the phase is not CUT"), (158, "there is no such key or column"), (166, "there is no such column")]
def kexs : List String := ["java/lang/IndexOutOfBoundsException", "java/lang/IllegalArgumentException", "java/lang/IllegalStateException", "java/util/NoSuchElementException"]
/-- what throwing and catching want of the heap and of the tables; A: what may be written -/
def KE (A : Nat → Prop) (U : State) (H : Heap) : Prop :=
  vx_Zq Bundle.tN "UNASSIGNED_STACK" Bundle.steD A U H ∧ vx_Zq Bundle.tN "SUPPRESSED_SENTINEL" Bundle.listD A U H ∧ (∀ q ∈ kstrs, ∃ sa, vk_R RX0 q.1 q.2 sa U) ∧ (∀ w ∈ kws, va_Nw w U) ∧ ∀ E ∈ kexs, ∀ F ∈ kexs, E ≠ F → va_Nc E F U
theorem KE.to {A B : Nat → Prop} {s U : State} {H H1 : Heap} (hW : s.WarmedH U.vm) (hk : ∀ a : Nat, a < H.size → ¬ A a → H1[a]? = H[a]?) (hAB : ∀ q, B q → A q) (h : KE A s H) : KE B U H1 := by
  obtain ⟨h1, h2, h3, h4, h5⟩ := h
  refine ⟨((h1.kept hk).narrow hAB).moved hW.alike, ((h2.kept hk).narrow hAB).moved hW.alike, fun q hq => ?_, kws_warm hW h4, fun E hE F hF hn => (h5 E hE F hF hn).moved hW.alike⟩
  obtain ⟨sa, hsa⟩ := h3 q hq
  exact ⟨sa, hsa.warm hW⟩
theorem KE.same {A : Nat → Prop} {u U : State} {H : Heap} (hvm : u.vm = U.vm) (h : KE A u H) : KE A U H := by
  have hal : u.vm.Alike U.vm := by rw [hvm]; exact Vm.Alike.refl U.vm
  obtain ⟨h1, h2, h3, h4, h5⟩ := h
  refine ⟨h1.moved hal, h2.moved hal, fun q hq => ?_, kws_same hvm h4, fun E hE F hF hn => (h5 E hE F hF hn).moved hal⟩
  obtain ⟨sa, hsa⟩ := h3 q hq
  exact ⟨sa, vk_R.same hvm.symm hsa⟩
/-- a body's start: the arguments, the heap's size, the world -/
def KP (D : va_G) (ca : Nat → ClassId) (w : va_W) (As : List Value) (sz : Nat) : Array Value → State → Prop :=
  va_Pc As (fun U => U.heap.size = sz ∧ va_P D vwCl w U.heap ∧ va_K D vwCl (ktys ca) U ∧ va_D (fun _ => True) w)
def KPE (D : va_G) (ca : Nat → ClassId) (w : va_W) (As : List Value) (sz : Nat) : Array Value → State → Prop :=
  va_Pc As (fun U => U.heap.size = sz ∧ va_P D vwCl w U.heap ∧ va_K D vwCl (ktys ca) U ∧ va_D (fun _ => True) w ∧ KE (va_A w sz) U U.heap)
/-- its end -/
def KQ (D : va_G) (w' : va_W) (o : Option Value) (A : Nat → Prop) : Array Value → State → Outcome → State → Prop := fun _ st oc t => oc = .returned o ∧ va_P D vwCl w' t.heap ∧ va_F A st t
/-- its end by a throw: the world is as it was -/
def KX (D : va_G) (w : va_W) (ψ : String → Prop) (A : Nat → Prop) : String → State → State → Prop := fun E st t => ψ E ∧ va_P D vwCl w t.heap ∧ va_F A st t
/-- A CONTRACT: called with As in the world w, y returns o, and leaves the world w' -/
def CM (l : Launch) (y : MethodName) (cd : ByteArray) (ml : Nat) (rt : Option FieldType) (rm : Room) (D : va_G) (ca : Nat → ClassId) (w : va_W) (As : List Value) (o : Option Value) (w' : va_W) : Prop :=
  ∀ sz : Nat, Met l y (.code y cd ml rt :: WL) rm (KP D ca w As sz) (KQ D w' o (va_A w sz)) 0 0 (va_A w sz)
/-- the same where y may throw: it returns only where φ, and throws E only where ψ E -/
def CX (l : Launch) (y : MethodName) (cd : ByteArray) (ml : Nat) (rt : Option FieldType) (rm : Room) (D : va_G) (ca : Nat → ClassId) (w : va_W) (As : List Value) (φ : Prop) (o : Option Value) (w' : va_W) (ψ : String → Prop) : Prop :=
  ∀ sz : Nat, vx_Met l y (.code y cd ml rt :: WL) rm (KPE D ca w As sz) (fun a st oc t => φ ∧ KQ D w' o (va_A w sz) a st oc t) (KX D w ψ (va_A w sz)) 1 6 (va_A w sz)
/-- a method of the law's, with a table of handlers: it returns -/
def CH (l : Launch) (y : MethodName) (cd : ByteArray) (ml : Nat) (rt : Option FieldType) (hh : List (Nat × Nat × Nat × Nat)) (rm : Room) (D : va_G) (ca : Nat → ClassId) (w : va_W) (As : List Value) (o : Option Value) (w' : va_W) : Prop :=
  ∀ sz : Nat, Met l y (.codeWith y cd ml rt hh :: WL) rm (KPE D ca w As sz) (KQ D w' o (va_A w sz)) 1 6 (va_A w sz)
theorem KP.blind {D : va_G} {ca : Nat → ClassId} {w : va_W} {As : List Value} {sz : Nat} : FrameBlind (KP D ca w As sz) := fun a U g mk q => by
  obtain ⟨q0, q1, qP, qK, qD⟩ := q
  exact ⟨q0, q1, qP, va_K.moved (u := U) (U := U.calling g mk a) (Vm.Alike.refl U.vm) qK, qD⟩
theorem KPE.blind {D : va_G} {ca : Nat → ClassId} {w : va_W} {As : List Value} {sz : Nat} : FrameBlind (KPE D ca w As sz) := fun a U g mk q => by
  obtain ⟨q0, q1, qP, qK, qD, qE⟩ := q
  exact ⟨q0, q1, qP, va_K.moved (u := U) (U := U.calling g mk a) (Vm.Alike.refl U.vm) qK, qD, KE.same (u := U) (U := U.calling g mk a) rfl qE⟩
section KBODY
variable {l : Launch} {y : MethodName} {cd : ByteArray} {ml : Nat} {rt : Option FieldType} {rm : Room} {D : va_G} {ca : Nat → ClassId} {w w' : va_W} {As : List Value} {o : Option Value} {φ : Prop} {ψ : String → Prop} {hh : List (Nat × Nat × Nat × Nat)}
theorem CM.of (hy : plainName y.cls = true) (hn : (lg_sl As).length ≤ ml)
    (body : ∀ (p : Program) (e : Env) (s : State) (m : MethodId) (below : List Frame) (meth : Method) (c : Code) (A : Nat → Prop) (ls : Array Slot), KC p c cd s As.toArray m y.cls D ca → c.maxLocals = ml → meth.sig.returnType = rt → meth.locks = false → KI D A w s.heap s.heap [] → lv_has ls ml (lv_args 0 As) →
      W p l e rm s m As.toArray below meth c s.heap [] 0 0 (MQ below (KQ D w' o A) As.toArray s 0 0 A) (F0 m 0 ls [])) : CM l y cd ml rt rm D ca w As o w' := by
  intro sz
  refine Met.ofW (cc := cd) (maxL := ml) (ret := rt) hy rfl ?_
  intro p e s m args below meth c s₁ B hml hv
  obtain ⟨rfl, hsz, hP, hK, hD0⟩ := hv
  have hts := atoms_spec (ws := .code y cd ml rt :: WL) B.pre
  have hown : s.vm.findClass y.cls = some m.cls := findClass_of_methodNamed B.named
  subst hsz
  have hD := hD0.self (sz := s.heap.size)
  have hl := lv_entry As (n := ml) hn
  rw [lg_entry_eq]
  exact body p e s m below meth c _ _ ⟨B.exec, B.bytes, hown, fun w hw => hts w (List.mem_cons_of_mem _ hw), hK⟩ hml B.returns B.notSynchronized ⟨hP, hD, va_S.rf, fun q h => Or.inr h⟩ hl
theorem CX.of (hy : plainName y.cls = true) (hn : (lg_sl As).length ≤ ml)
    (body : ∀ (p : Program) (e : Env) (s : State) (m : MethodId) (below : List Frame) (meth : Method) (c : Code) (A : Nat → Prop) (ls : Array Slot), KC p c cd s As.toArray m y.cls D ca → c.maxLocals = ml → meth.sig.returnType = rt → meth.locks = false → (∀ x ∈ c.exceptionTable.toList, False) → KE A s s.heap → KI D A w s.heap s.heap [] → lv_has ls ml (lv_args 0 As) →
      W p l e rm s m As.toArray below meth c s.heap [] 0 0 (vx_MQ below (fun a st oc t => φ ∧ KQ D w' o A a st oc t) (KX D w ψ A) As.toArray s 1 6 A) (F0 m 0 ls [])) : CX l y cd ml rt rm D ca w As φ o w' ψ := by
  intro sz
  refine vx_ofW (cc := cd) (maxL := ml) (ret := rt) hy rfl ?_
  intro p e s m args below meth c s₁ B hml htab hv
  obtain ⟨rfl, hsz, hP, hK, hD0, hE⟩ := hv
  have hts := atoms_spec (ws := .code y cd ml rt :: WL) B.pre
  have hown : s.vm.findClass y.cls = some m.cls := findClass_of_methodNamed B.named
  subst hsz
  have hD := hD0.self (sz := s.heap.size)
  have hl := lv_entry As (n := ml) hn
  rw [lg_entry_eq]
  exact body p e s m below meth c _ _ ⟨B.exec, B.bytes, hown, fun w hw => hts w (List.mem_cons_of_mem _ hw), hK⟩ hml B.returns B.notSynchronized htab hE ⟨hP, hD, va_S.rf, fun q h => Or.inr h⟩ hl
theorem CH.of (hy : plainName y.cls = true) (hn : (lg_sl As).length ≤ ml)
    (body : ∀ (p : Program) (e : Env) (s : State) (m : MethodId) (below : List Frame) (meth : Method) (c : Code) (A : Nat → Prop) (ls : Array Slot), KC p c cd s As.toArray m y.cls D ca → c.maxLocals = ml → meth.sig.returnType = rt → meth.locks = false → c.exceptionTable.toList = tableOf hh → KE A s s.heap → KI D A w s.heap s.heap [] → lv_has ls ml (lv_args 0 As) →
      W p l e rm s m As.toArray below meth c s.heap [] 0 0 (MQ below (KQ D w' o A) As.toArray s 1 6 A) (F0 m 0 ls [])) : CH l y cd ml rt hh rm D ca w As o w' := by
  intro sz
  refine MetFree.of_bodyS (code := cd) (maxLocals := ml) (ret := rt) hy ?_ ?_
  · intro args s m h hn
    obtain ⟨m9, meth, c, hn9, h1, h2, h3, h4, -, h5, h6, -⟩ := Cond.codeWith_spec (atoms_spec (ws := .codeWith y cd ml rt hh :: WL) h _ List.mem_cons_self)
    cases hn.symm.trans hn9
    exact ⟨meth, c, h1, h2, h3, h4, h5, h6⟩
  · intro p e s m args below meth c s₁ B hml hv _
    have hh0 : s₁.heap = s.heap := by rw [B.state]; rfl
    obtain ⟨rfl, hsz, hP, hK, hD0, hE⟩ := hv
    have hts := atoms_spec (ws := .codeWith y cd ml rt hh :: WL) B.pre
    have htab := vx_table (x := y) B (hts _ List.mem_cons_self)
    have hown : s.vm.findClass y.cls = some m.cls := findClass_of_methodNamed B.named
    subst hsz
    have hD := hD0.self (sz := s.heap.size)
    have hl := lv_entry As (n := ml) hn
    have k := body p e s m below meth c _ _ ⟨B.exec, B.bytes, hown, fun w hw => hts w (List.mem_cons_of_mem _ hw), hK⟩ hml B.returns B.notSynchronized htab hE ⟨hP, hD, va_S.rf, fun q h => Or.inr h⟩ hl
    rw [← lg_entry_eq] at k
    obtain ⟨t, a1, o, b1, b2, b3⟩ := k s₁ hh0 (Stand.of_body B)
    exact ⟨t, o, a1, b1, b2, ⟨b3.1, b3.2⟩⟩
end KBODY
end
section
/-! MINE: a row a call. -/
theorem wk_V {own C : String} {i : Nat} {y : MethodName} {b : ByteArray} {ml : Nat} {rt : Option FieldType} (h0 : Cond.code y b ml rt ∈ WL) (h1 : Cond.methodLink own i y ∈ WL) (h2 : Cond.instanceMethod y ∈ WL) (h3 : Cond.selects C y y ∈ WL) (h4 : Cond.initialized C ∈ WL) : GoodIn WL (wsV own i C y (.code y b ml rt :: WL)) := fun w hw => by
  have h : w ∈ WL := by
    unfold wsV at hw
    simp only [List.cons_append, List.nil_append, List.mem_cons] at hw
    rcases hw with rfl | rfl | rfl | rfl | rfl | hw
    · exact h1
    · exact h2
    · exact h3
    · exact h4
    · exact h0
    · exact hw
  exact ⟨h, good_of_word (List.mem_filter.mp h).2⟩
theorem wk_S {own : String} {i : Nat} {y : MethodName} {cw : Cond} (h0 : cw ∈ WL) (h1 : Cond.methodLink own i y ∈ WL) (h2 : Cond.static y ∈ WL) (h4 : Cond.initialized y.cls ∈ WL) : GoodIn WL (va_wsS own i y (cw :: WL)) := fun w hw => by
  have h : w ∈ WL := by
    unfold va_wsS at hw
    simp only [List.cons_append, List.nil_append, List.mem_cons] at hw
    rcases hw with rfl | rfl | rfl | rfl | hw
    · exact h1
    · exact h2
    · exact h4
    · exact h0
    · exact hw
  exact ⟨h, good_of_word (List.mem_filter.mp h).2⟩
section KCALL
variable {p : Program} {l : Launch} {e : Env} {R : Room} {s : State} {m : MethodId} {args : Array Value} {below : List Frame} {meth : Method} {c : Code} {H : Heap} {locs : List Loc} {cells slots : Nat} {Q : State → Prop}
variable {cc : ByteArray} {pc : Nat} {ls : Array Slot} {rest : List Value} {D : va_G} {ca : Nat → ClassId} {A : Nat → Prop} {own : String}
variable {y : MethodName} {bytes : ByteArray} {maxL index n mc ms : Nat} {ret : Option FieldType} {rm : Room} {w w' pre post W0 W1 : va_W} {o : Option Value} {As : List Value} {b : Nat} {st0 : List Value} {φ : Prop} {ψ : String → Prop}
theorem k_run (hr : va_Run p l e R s m args below meth c H locs cells slots mc ms (F0 m pc ls st0) rest (KQ D w' o (va_A w H.size) As.toArray) (va_A w H.size))
    (hI : KI D A W0 s.heap H locs) (e0 : W0 = pre ++ (w ++ post)) (e1 : W1 = pre ++ (w' ++ post)) (had : w'.map Prod.fst = w.map Prod.fst)
    (kk : ∀ H1 locs1, KI D A W1 s.heap H1 locs1 → W p l e R s m args below meth c H1 locs1 (cells + mc) (slots + ms) Q (F0 m (pc + 3) ls (o.toList ++ rest))) : W p l e R s m args below meth c H locs cells slots Q (F0 m pc ls st0) := by
  subst e0 e1
  obtain ⟨hP, hD, hS, hA⟩ := hI
  have hF := kf_free hD hS hA
  intro T hT X
  obtain ⟨v, st₀, t, T', L, h0, X', hL, e1, e2, ⟨hv, hP1, hz, hk⟩, st⟩ := hr T hT X
  have hv : v = o := by injection hv
  subst hv
  rw [h0] at hz hk
  have hk1 : ∀ q : Nat, q < H.size → ¬ va_A w H.size q → T'.heap[q]? = H[q]? := fun q h1 h2 => by rw [e1]; exact hk q h1 h2
  have hz1 : H.size ≤ T'.heap.size := by rw [e1]; exact hz
  obtain ⟨t2, a1, b1⟩ := kk T'.heap (locs ++ L) ⟨kf_P hP hD hk1 (by rw [e1]; exact hP1), kf_Dw had hD, ⟨Nat.le_trans hS.1 hz1, fun q h1 h2 => by rw [hk1 q (Nat.lt_of_lt_of_le h1 hS.1) (fun z => h2 (hF q z))]; exact hS.2.1 q h1 h2, fun q hq => by
      rcases List.mem_append.mp hq with h | h
      · exact hS.2.2 q h
      · exact hF _ (hL q h)⟩, hA⟩ T' rfl X'
  exact ⟨t2, st t2 a1, b1⟩
theorem k_preV (hK : va_K D vwCl (ktys ca) s) (hP : va_P D vwCl w H) (hD : va_D A w) {ci : Nat} {q : vw_C} {fs : List Value} (hc : vwCl[ci]? = some q) (he : w[0]? = some (b, .inr (ci, fs))) : PreV s H q.1 b (KP D ca w (.ref b :: As) H.size) As :=
  ⟨KP.blind, va_recv hK hP hc he, fun U hU hW => ⟨rfl, by rw [hU], by rw [hU]; exact hP, va_K.moved hW.alike hK, hD.weaken (fun _ _ _ _ => trivial)⟩⟩
theorem k_preS (hK : va_K D vwCl (ktys ca) s) (hP : va_P D vwCl w H) (hD : va_D A w) : PreS s H (KP D ca w As H.size) As :=
  ⟨KP.blind, fun U hU hW => ⟨rfl, by rw [hU], by rw [hU]; exact hP, va_K.moved hW.alike hK, hD.weaken (fun _ _ _ _ => trivial)⟩⟩
theorem k_preVE (hK : va_K D vwCl (ktys ca) s) (hP : va_P D vwCl w H) (hD : va_D A w) (hE : KE A s s.heap) (hS : va_S A s.heap H locs) (hF : ∀ q, va_A w H.size q → A q) {ci : Nat} {q : vw_C} {fs : List Value} (hc : vwCl[ci]? = some q) (he : w[0]? = some (b, .inr (ci, fs))) : PreV s H q.1 b (KPE D ca w (.ref b :: As) H.size) As :=
  ⟨KPE.blind, va_recv hK hP hc he, fun U hU hW => ⟨rfl, by rw [hU], by rw [hU]; exact hP, va_K.moved hW.alike hK, hD.weaken (fun _ _ _ _ => trivial), by rw [hU]; exact KE.to hW hS.2.1 hF hE⟩⟩
theorem k_preSE (hK : va_K D vwCl (ktys ca) s) (hP : va_P D vwCl w H) (hD : va_D A w) (hE : KE A s s.heap) (hS : va_S A s.heap H locs) (hF : ∀ q, va_A w H.size q → A q) : PreS s H (KPE D ca w As H.size) As :=
  ⟨KPE.blind, fun U hU hW => ⟨rfl, by rw [hU], by rw [hU]; exact hP, va_K.moved hW.alike hK, hD.weaken (fun _ _ _ _ => trivial), by rw [hU]; exact KE.to hW hS.2.1 hF hE⟩⟩
/-- a call of a method of an object, the rest of the world around it -/
theorem k_callV (n : Nat) (pre post : va_W) {C : String} {T : u_T} {N ci : Nat} {fs : List Value} (cx : KC p c cc s args m own D ca) (hls : ls.size = c.maxLocals) (hM : CM l y bytes maxL ret rm D ca w (.ref b :: As) o w')
    (hI : KI D A W0 s.heap H locs) (e0 : W0 = pre ++ (w ++ post)) (e1 : W1 = pre ++ (w' ++ post)) (had : w'.map Prod.fst = w.map Prod.fst)
    (hc : vwCl[ci]? = some (C, T, N)) (he : w[0]? = some (b, .inr (ci, fs)))
    (h0 : Cond.code y bytes maxL ret ∈ WL) (h1 : Cond.methodLink own index y ∈ WL) (h2 : Cond.instanceMethod y ∈ WL) (h3 : Cond.selects C y y ∈ WL) (h4 : Cond.initialized C ∈ WL)
    (hd : y.cls = C ∧ y.cls ≠ "java/lang/invoke/MethodHandle" ∧ y.cls ≠ "java/lang/invoke/VarHandle" ∧ (parseMethodDescriptor y.desc).map (fun d => d.parameters.length) = some n) (hn : As.length = n)
    (hrm : rm.cells = 0 ∧ rm.slots = 0) (hR : rm.frames + 1 ≤ R.frames ∧ 8 + (maxL + 11) + rm.locals ≤ R.locals) (hW : (rest.map fun v => v.category).sum ≤ 8) (hdg : decode cc pc = .ok (.invokevirtual index, 3)) (hf : cells ≤ R.cells ∧ slots ≤ R.slots)
    (hst : st0 = As.reverse ++ .ref b :: rest) (kk : ∀ H1 locs1, KI D A W1 s.heap H1 locs1 → W p l e R s m args below meth c H1 locs1 cells slots Q (F0 m (pc + 3) ls (o.toList ++ rest))) : W p l e R s m args below meth c H locs cells slots Q (F0 m pc ls st0) := by
  obtain ⟨hP, hD, hS, hA⟩ := id hI
  rw [e0] at hP hD
  exact k_run (va_runV (As := As) (rest := rest) ⟨cx.1, cx.2.1, rfl, cx.2.2.1, cx.2.2.2.1⟩ (hM H.size) (cwV n cx.2.2.2.1 (wk_V h0 h1 h2 h3 h4) rfl hrm.1 hrm.2 hd hR) (k_preV cx.2.2.2.2 (kf_at hP) (kf_Dat hD) hc he) rfl hn hls hst (lv_room hW) hdg hf) hI e0 e1 had kk
/-- a call of a static method -/
theorem k_callS (n : Nat) (pre post : va_W) (cx : KC p c cc s args m own D ca) (hls : ls.size = c.maxLocals) (hM : CM l y bytes maxL ret rm D ca w As o w')
    (hI : KI D A W0 s.heap H locs) (e0 : W0 = pre ++ (w ++ post)) (e1 : W1 = pre ++ (w' ++ post)) (had : w'.map Prod.fst = w.map Prod.fst)
    (h0 : Cond.code y bytes maxL ret ∈ WL) (h1 : Cond.methodLink own index y ∈ WL) (h2 : Cond.static y ∈ WL) (h4 : Cond.initialized y.cls ∈ WL)
    (hd : y.cls ≠ "java/lang/invoke/MethodHandle" ∧ y.cls ≠ "java/lang/invoke/VarHandle" ∧ (parseMethodDescriptor y.desc).map (fun d => d.parameters.length) = some n) (hn : As.length = n)
    (hrm : rm.cells = 0 ∧ rm.slots = 0) (hR : rm.frames + 1 ≤ R.frames ∧ 8 + (maxL + 11) + rm.locals ≤ R.locals) (hW : (rest.map fun v => v.category).sum ≤ 8) (hdg : decode cc pc = .ok (.invokestatic index, 3)) (hf : cells ≤ R.cells ∧ slots ≤ R.slots)
    (hst : st0 = As.reverse ++ rest) (kk : ∀ H1 locs1, KI D A W1 s.heap H1 locs1 → W p l e R s m args below meth c H1 locs1 cells slots Q (F0 m (pc + 3) ls (o.toList ++ rest))) : W p l e R s m args below meth c H locs cells slots Q (F0 m pc ls st0) := by
  obtain ⟨hP, hD, hS, hA⟩ := id hI
  rw [e0] at hP hD
  exact k_run (va_runS (As := As) (rest := rest) ⟨cx.1, cx.2.1, rfl, cx.2.2.1, cx.2.2.2.1⟩ (hM H.size) (va_cwS n cx.2.2.2.1 (wk_S h0 h1 h2 h4) rfl hrm.1 hrm.2 hd hR) (k_preS cx.2.2.2.2 (kf_at hP) (kf_Dat hD)) rfl hn hls hst (lv_room hW) hdg hf) hI e0 e1 had kk
/-- a call of one of the law's methods with handlers -/
theorem k_callH (n : Nat) (pre post : va_W) {hh : List (Nat × Nat × Nat × Nat)} (cx : KC p c cc s args m own D ca) (hE : KE A s s.heap) (hls : ls.size = c.maxLocals) (hM : CH l y bytes maxL ret hh rm D ca w As o w')
    (hI : KI D A W0 s.heap H locs) (e0 : W0 = pre ++ (w ++ post)) (e1 : W1 = pre ++ (w' ++ post)) (had : w'.map Prod.fst = w.map Prod.fst)
    (h0 : Cond.codeWith y bytes maxL ret hh ∈ WL) (h1 : Cond.methodLink own index y ∈ WL) (h2 : Cond.static y ∈ WL) (h4 : Cond.initialized y.cls ∈ WL)
    (hd : y.cls ≠ "java/lang/invoke/MethodHandle" ∧ y.cls ≠ "java/lang/invoke/VarHandle" ∧ (parseMethodDescriptor y.desc).map (fun d => d.parameters.length) = some n) (hn : As.length = n)
    (hrm : rm.cells = 1 ∧ rm.slots = 6) (hR : rm.frames + 1 ≤ R.frames ∧ 8 + (maxL + 11) + rm.locals ≤ R.locals) (hW : (rest.map fun v => v.category).sum ≤ 8) (hdg : decode cc pc = .ok (.invokestatic index, 3)) (hf : cells + 1 ≤ R.cells ∧ slots + 6 ≤ R.slots)
    (hst : st0 = As.reverse ++ rest) (kk : ∀ H1 locs1, KI D A W1 s.heap H1 locs1 → W p l e R s m args below meth c H1 locs1 (cells + 1) (slots + 6) Q (F0 m (pc + 3) ls (o.toList ++ rest))) : W p l e R s m args below meth c H locs cells slots Q (F0 m pc ls st0) := by
  obtain ⟨hP, hD, hS, hA⟩ := id hI
  rw [e0] at hP hD
  exact k_run (vx_runSW (As := As) (rest := rest) ⟨cx.1, cx.2.1, rfl, cx.2.2.1, cx.2.2.2.1⟩ (hM H.size) (vx_cwSW n cx.2.2.2.1 (wk_S h0 h1 h2 h4) rfl hrm.1 hrm.2 hd hR) (k_preSE cx.2.2.2.2 (kf_at hP) (kf_Dat hD) hE hS (kf_free hD hS hA)) rfl hn hls hst (lv_room hW) hdg hf) hI e0 e1 had kk
/-- a call that may throw: kx is where it throws -/
theorem k_callX (n : Nat) (pre post : va_W) {C : String} {T : u_T} {N ci : Nat} {fs : List Value} (cx : KC p c cc s args m own D ca) (hE : KE A s s.heap) (hls : ls.size = c.maxLocals) (hM : CX l y bytes maxL ret rm D ca w (.ref b :: As) φ o w' ψ)
    (hI : KI D A W0 s.heap H locs) (e0 : W0 = pre ++ (w ++ post)) (e1 : W1 = pre ++ (w' ++ post)) (had : w'.map Prod.fst = w.map Prod.fst)
    (hc : vwCl[ci]? = some (C, T, N)) (he : w[0]? = some (b, .inr (ci, fs)))
    (h0 : Cond.code y bytes maxL ret ∈ WL) (h1 : Cond.methodLink own index y ∈ WL) (h2 : Cond.instanceMethod y ∈ WL) (h3 : Cond.selects C y y ∈ WL) (h4 : Cond.initialized C ∈ WL)
    (hd : y.cls = C ∧ y.cls ≠ "java/lang/invoke/MethodHandle" ∧ y.cls ≠ "java/lang/invoke/VarHandle" ∧ (parseMethodDescriptor y.desc).map (fun d => d.parameters.length) = some n) (hn : As.length = n)
    (hrm : rm.cells = 1 ∧ rm.slots = 6) (hR : rm.frames + 1 ≤ R.frames ∧ 8 + (maxL + 11) + rm.locals ≤ R.locals) (hW : (rest.map fun v => v.category).sum ≤ 8) (hdg : decode cc pc = .ok (.invokevirtual index, 3)) (hf : cells + 1 ≤ R.cells ∧ slots + 6 ≤ R.slots)
    (hst : st0 = As.reverse ++ .ref b :: rest)
    (kx : ∀ E ce q9 H1 locs1, ψ E → KI D A W0 s.heap H1 locs1 → H1[q9]? = some ce → ce.vm = .none → s.vm.findClass E = some ce.cls → vx_W p l e R s m args below meth c H1 locs1 (cells + 1) (slots + 6) Q (F0 m pc ls rest) q9)
    (kk : φ → ∀ H1 locs1, KI D A W1 s.heap H1 locs1 → W p l e R s m args below meth c H1 locs1 (cells + 1) (slots + 6) Q (F0 m (pc + 3) ls (o.toList ++ rest))) : W p l e R s m args below meth c H locs cells slots Q (F0 m pc ls st0) := by
  subst e0 e1
  obtain ⟨hP, hD, hS, hA⟩ := hI
  have hF := kf_free hD hS hA
  have hr := vx_runV (e := e) (below := below) (meth := meth) (locs := locs) (As := As) (rest := rest) ⟨cx.1, cx.2.1, rfl, cx.2.2.1, cx.2.2.2.1⟩ (hM H.size) (cwV n cx.2.2.2.1 (wk_V h0 h1 h2 h3 h4) rfl hrm.1 hrm.2 hd hR) (k_preVE cx.2.2.2.2 (kf_at hP) (kf_Dat hD) hE hS hF hc he) (g := F0 m pc ls st0) rfl hn hls hst (lv_room hW) hdg hf
  intro T hT X
  rcases hr T hT X with ⟨v, st₀, t, T', L, h0, X', hL, e1, e2, ⟨hφ, hv, hP1, hz, hk⟩, st⟩ | ⟨q, st₀, t, T', L, E, ce, h0, X', hL, e1, e2, ⟨hψ, hP1, hz, hk⟩, hce, hcv, hcl, st⟩
  · have hv : v = o := by injection hv
    subst hv
    rw [h0] at hz hk
    have hk1 : ∀ q : Nat, q < H.size → ¬ va_A w H.size q → T'.heap[q]? = H[q]? := fun q h1 h2 => by rw [e1]; exact hk q h1 h2
    have hz1 : H.size ≤ T'.heap.size := by rw [e1]; exact hz
    obtain ⟨t2, a1, b1⟩ := kk hφ T'.heap (locs ++ L) ⟨kf_P hP hD hk1 (by rw [e1]; exact hP1), kf_Dw had hD, ⟨Nat.le_trans hS.1 hz1, fun q h1 h2 => by rw [hk1 q (Nat.lt_of_lt_of_le h1 hS.1) (fun z => h2 (hF q z))]; exact hS.2.1 q h1 h2, fun q hq => by
        rcases List.mem_append.mp hq with h | h
        · exact hS.2.2 q h
        · exact hF _ (hL q h)⟩, hA⟩ T' rfl X'
    exact ⟨t2, st t2 a1, b1⟩
  · rw [h0] at hz hk
    have hk1 : ∀ q : Nat, q < H.size → ¬ va_A w H.size q → T'.heap[q]? = H[q]? := fun q h1 h2 => by rw [e1]; exact hk q h1 h2
    have hz1 : H.size ≤ T'.heap.size := by rw [e1]; exact hz
    obtain ⟨t2, a1, b1⟩ := kx E ce q T'.heap (locs ++ L) hψ ⟨kf_P hP hD hk1 (by rw [e1]; exact hP1), hD, ⟨Nat.le_trans hS.1 hz1, fun q h1 h2 => by rw [hk1 q (Nat.lt_of_lt_of_le h1 hS.1) (fun z => h2 (hF q z))]; exact hS.2.1 q h1 h2, fun q hq => by
        rcases List.mem_append.mp hq with h | h
        · exact hS.2.2 q h
        · exact hF _ (hL q h)⟩, hA⟩ (by rw [e1]; exact hce) hcv hcl T' rfl X'
    exact ⟨t2, st.trans a1, b1⟩
end KCALL
section KEND
variable {p : Program} {l : Launch} {e : Env} {R : Room} {s : State} {m : MethodId} {args : Array Value} {below : List Frame} {meth : Method} {c : Code} {H : Heap} {locs : List Loc} {cells slots mc ms : Nat}
variable {cc : ByteArray} {pc : Nat} {ls : Array Slot} {D : va_G} {ca : Nat → ClassId} {A : Nat → Prop} {own : String} {w1 w' : va_W} {o : Option Value} {φ : Prop} {XC : String → State → State → Prop}
theorem ke_i {v : Int32} (cx : KC p c cc s args m own D ca) (hr : meth.sig.returnType = some .int) (hlk : meth.locks = false) (hI : KI D A w1 s.heap H locs) (hc : cells ≤ mc) (hs : slots ≤ ms) (hdg : decode cc pc = .ok (.ireturn, 1)) (eo : some (.int v) = o) (ew : w1 = w') :
    W p l e R s m args below meth c H locs cells slots (MQ below (KQ D w' o A) args s mc ms A) (F0 m pc ls [.int v]) := by
  subst eo ew
  refine W.widen hc hs ?_
  exact W.iret cx.1 cx.2.1 hr (fun t ht hW => ⟨rfl, by rw [ht]; exact hI.1, hI.2.2.1.F ht⟩) hI.2.2.1.2.2 hdg hlk
theorem ke_z {v : Int32} (cx : KC p c cc s args m own D ca) (hr : meth.sig.returnType = some .boolean) (hlk : meth.locks = false) (hI : KI D A w1 s.heap H locs) (hc : cells ≤ mc) (hs : slots ≤ ms) (hdg : decode cc pc = .ok (.ireturn, 1)) (hn : narrow .boolean (.int v) = .int v) (eo : some (.int v) = o) (ew : w1 = w') :
    W p l e R s m args below meth c H locs cells slots (MQ below (KQ D w' o A) args s mc ms A) (F0 m pc ls [.int v]) := by
  subst eo ew
  refine W.widen hc hs ?_
  exact W.zret cx.1 cx.2.1 hr hn (fun t ht hW => ⟨rfl, by rw [ht]; exact hI.1, hI.2.2.1.F ht⟩) hI.2.2.1.2.2 hdg hlk
theorem ke_v (cx : KC p c cc s args m own D ca) (hr : meth.sig.returnType = none) (hlk : meth.locks = false) (hI : KI D A w1 s.heap H locs) (hc : cells ≤ mc) (hs : slots ≤ ms) (hdg : decode cc pc = .ok (.return_, 1)) (eo : none = o) (ew : w1 = w') :
    W p l e R s m args below meth c H locs cells slots (MQ below (KQ D w' o A) args s mc ms A) (F0 m pc ls []) := by
  subst eo ew
  refine W.widen hc hs ?_
  exact W.vret cx.1 cx.2.1 hr (fun t ht hW => ⟨rfl, by rw [ht]; exact hI.1, hI.2.2.1.F ht⟩) hI.2.2.1.2.2 hdg hlk
/-- the end of a method that may throw, where it returns -/
theorem ke_x {g : JFrame} {Qc : Array Value → State → Outcome → State → Prop} (hφ : φ) (k : W p l e R s m args below meth c H locs cells slots (MQ below Qc args s mc ms A) g) : W p l e R s m args below meth c H locs cells slots (vx_MQ below (fun a st oc t => φ ∧ Qc a st oc t) XC args s mc ms A) g := by
  refine vx_ret ?_
  intro T hT X
  obtain ⟨t, a1, o, b1, b2, b3, b4⟩ := k T hT X
  exact ⟨t, a1, o, b1, b2, ⟨hφ, b3⟩, b4⟩
end KEND
end
section
/-! MINE: rows of branches on an answer of truth, of loops, of columns. -/
def b2i (b : Bool) : Int32 := if b then 1 else 0
theorem b2i_t : b2i true = 1 := rfl
theorem b2i_f : b2i false = 0 := rfl
theorem b2i_nar (b : Bool) : narrow .boolean (.int (b2i b)) = .int (b2i b) := by cases b <;> rfl
theorem b2i_vp (b : Bool) : vp_nar .boolean (b2i b) = b2i b := by cases b <;> rfl
abbrev KR (f n : Nat) : Room := { frames := f, cells := 0, slots := 0, locals := n }
abbrev KR1 (f n : Nat) : Room := { frames := f, cells := 1, slots := 6, locals := n }
section KB
variable {p : Program} {l : Launch} {e : Env} {R : Room} {s : State} {m : MethodId} {args : Array Value} {below : List Frame} {meth : Method} {c : Code} {H : Heap} {locs : List Loc} {cells slots : Nat} {Q : State → Prop}
variable {cc : ByteArray} {pc : Nat} {ls : Array Slot} {rest : List Value} {D : va_G} {ca : Nat → ClassId} {A : Nat → Prop} {ad : Nat → Nat} {own : String}
theorem kb_eq (cx : KC p c cc s args m own D ca) {b : Bool} {off : Int} {tgt : Nat} (hdg : decode cc pc = .ok (.ifCond .eq off, 3)) (ht : (pc : Int) + off = (tgt : Int)) (kt : b = false → W p l e R s m args below meth c H locs cells slots Q (F0 m tgt ls rest)) (kf : b = true → W p l e R s m args below meth c H locs cells slots Q (F0 m (pc + 3) ls rest)) : W p l e R s m args below meth c H locs cells slots Q (F0 m pc ls (.int (b2i b) :: rest)) := by
  refine lv_if_eq cx.1 cx.2.1 hdg ht (fun h => kt ?_) (fun h => kf ?_)
  · cases b
    · rfl
    · exact absurd h (by decide)
  · cases b
    · exact absurd rfl h
    · rfl
theorem kb_ne (cx : KC p c cc s args m own D ca) {b : Bool} {off : Int} {tgt : Nat} (hdg : decode cc pc = .ok (.ifCond .ne off, 3)) (ht : (pc : Int) + off = (tgt : Int)) (kt : b = true → W p l e R s m args below meth c H locs cells slots Q (F0 m tgt ls rest)) (kf : b = false → W p l e R s m args below meth c H locs cells slots Q (F0 m (pc + 3) ls rest)) : W p l e R s m args below meth c H locs cells slots Q (F0 m pc ls (.int (b2i b) :: rest)) := by
  refine lv_if_ne cx.1 cx.2.1 hdg ht (fun h => kt ?_) (fun h => kf ?_)
  · cases b
    · exact absurd rfl h
    · rfl
  · cases b
    · rfl
    · exact absurd h (by decide)
/-- a joined value, by its name -/
theorem k_top {x y : Int32} {pc1 : Nat} (h : x = y) (k : W p l e R s m args below meth c H locs cells slots Q (F0 m pc1 ls (.int y :: rest))) : W p l e R s m args below meth c H locs cells slots Q (F0 m pc1 ls (.int x :: rest)) := by rw [h]; exact k
/-- two roads that meet at pc2 -/
theorem k_join {pc1 : Nat} {st1 : List Value} (pc2 : Nat) (w2 : va_W) (st2 : List Value) (hj : ∀ (H : Heap) (locs : List Loc), KI D A w2 s.heap H locs → W p l e R s m args below meth c H locs cells slots Q (F0 m pc2 ls st2))
    (k : (∀ (H : Heap) (locs : List Loc), KI D A w2 s.heap H locs → W p l e R s m args below meth c H locs cells slots Q (F0 m pc2 ls st2)) → W p l e R s m args below meth c H locs cells slots Q (F0 m pc1 ls st1)) : W p l e R s m args below meth c H locs cells slots Q (F0 m pc1 ls st1) := k hj
/-- a loop of N turns -/
theorem k_loop (N : Nat) {ml head : Nat} (wF : Nat → va_W) (lF : Nat → List (Nat × Value)) (hI : KI D A (wF 0) s.heap H locs) (hl : lv_has ls ml (lF 0))
    (hx : ∀ H locs ls, KI D A (wF N) s.heap H locs → lv_has ls ml (lF N) → W p l e R s m args below meth c H locs cells slots Q (F0 m head ls rest))
    (hs : ∀ i, i < N → ∀ H locs ls, KI D A (wF i) s.heap H locs → lv_has ls ml (lF i) → (∀ H locs ls, KI D A (wF (i + 1)) s.heap H locs → lv_has ls ml (lF (i + 1)) → W p l e R s m args below meth c H locs cells slots Q (F0 m head ls rest)) → W p l e R s m args below meth c H locs cells slots Q (F0 m head ls rest)) :
    W p l e R s m args below meth c H locs cells slots Q (F0 m head ls rest) := by
  have go : ∀ (n i : Nat), i + n = N → ∀ H locs ls, KI D A (wF i) s.heap H locs → lv_has ls ml (lF i) → W p l e R s m args below meth c H locs cells slots Q (F0 m head ls rest) := by
    intro n
    induction n with
    | zero =>
      intro i hi H locs ls hI hl
      have : i = N := by omega
      subst this
      exact hx H locs ls hI hl
    | succ n ih =>
      intro i hi H locs ls hI hl
      exact hs i (by omega) H locs ls hI hl (fun H locs ls hI hl => ih (i + 1) (by omega) H locs ls hI hl)
  exact go N 0 (by omega) H locs ls hI hl
/-- the column c of the shadow, as the cells have it -/
def xC (v : XS) (c : Nat) : Nat → Int32 := match c with
  | 0 => xC0 v
  | 1 => xC1 v
  | _ => xC2 v
def xUC (v : XS) (c : Nat) (f : Nat → Int32) : XS := match c with
  | 0 => xUC0 v f
  | 1 => xUC1 v f
  | _ => xUC2 v f
theorem k3 {c0 : Int32} (h : vp_in c0 3) : c0.toNatClampNeg = 0 ∨ c0.toNatClampNeg = 1 ∨ c0.toNatClampNeg = 2 := by
  have hlt : c0.toNatClampNeg < 3 := Nat.not_le.mp fun q => h (Or.inr q)
  omega
theorem xa_col {v : XS} (cx : KC p c cc s args m RX0 D ca) (hI : KI D A (xw ad ca v) s.heap H locs) {c0 i : Int32} (hc : vp_in c0 3) {j : Nat} (hj : c0.toNatClampNeg = j) (hin : vp_in i 40) (hdg : decode cc pc = .ok (.iaload, 1)) (k : W p l e R s m args below meth c H locs cells slots Q (F0 m (pc + 1) ls (.int (xC v j i.toNatClampNeg) :: rest))) : W p l e R s m args below meth c H locs cells slots Q (F0 m pc ls (.int i :: .ref (ad (4 + c0.toNatClampNeg)) :: rest)) := by
  subst hj
  rcases k3 hc with h | h | h <;> rw [h] at k ⊢
  · exact xa_C0 cx hI hin hdg k
  · exact xa_C1 cx hI hin hdg k
  · exact xa_C2 cx hI hin hdg k
theorem xs_col {v : XS} (cx : KC p c cc s args m RX0 D ca) (hI : KI D A (xw ad ca v) s.heap H locs) {c0 i y : Int32} (hc : vp_in c0 3) {j : Nat} (hj : c0.toNatClampNeg = j) (hin : vp_in i 40) (hdg : decode cc pc = .ok (.iastore, 1)) (k : ∀ (H : Heap) (locs : List Loc), KI D A (xw ad ca (xUC v j (upd (xC v j) i.toNatClampNeg y))) s.heap H locs → W p l e R s m args below meth c H locs cells slots Q (F0 m (pc + 1) ls rest)) : W p l e R s m args below meth c H locs cells slots Q (F0 m pc ls (.int y :: .int i :: .ref (ad (4 + c0.toNatClampNeg)) :: rest)) := by
  subst hj
  rcases k3 hc with h | h | h <;> rw [h] at k ⊢
  · exact xs_C0 cx hI hin hdg k
  · exact xs_C1 cx hI hin hdg k
  · exact xs_C2 cx hI hin hdg k
/-- how many columns there are -/
theorem xl_cols {v : XS} (cx : KC p c cc s args m RX0 D ca) (hI : KI D A (xw ad ca v) s.heap H locs) (hdg : decode cc pc = .ok (.arraylength, 1)) (k : W p l e R s m args below meth c H locs cells slots Q (F0 m (pc + 1) ls (.int 3 :: rest))) : W p l e R s m args below meth c H locs cells slots Q (F0 m pc ls (.ref (ad 3) :: rest)) :=
  va_alen cx.1 cx.2.1 cx.2.2.2.2 hI.1 3 2 rfl rfl rfl hdg k
theorem vp0 {n : Nat} (h : 0 < n) (hn : n < 2 ^ 31) : vp_in 0 n := vp_in_nI h hn
theorem vp1 {n : Nat} (h : 1 < n) (hn : n < 2 ^ 31) : vp_in 1 n := vp_in_nI h hn
theorem vp2 {n : Nat} (h : 2 < n) (hn : n < 2 ^ 31) : vp_in 2 n := vp_in_nI h hn
end KB
end
section
/-! MINE: calls within one world, in short. -/
theorem kn0 (w : va_W) : w = [] ++ (w ++ []) := (List.append_nil w).symm
theorem kn1 (w : va_W) : w = w ++ ([] ++ []) := (List.append_nil w).symm
theorem xw_ad {ad : Nat → Nat} {ca : Nat → ClassId} {v v' : XS} : (xw ad ca v').map Prod.fst = (xw ad ca v).map Prod.fst := rfl
section KC2
variable {p : Program} {l : Launch} {e : Env} {R : Room} {s : State} {m : MethodId} {args : Array Value} {below : List Frame} {meth : Method} {c : Code} {H : Heap} {locs : List Loc} {cells slots : Nat} {Q : State → Prop}
variable {cc : ByteArray} {pc : Nat} {ls : Array Slot} {rest : List Value} {D : va_G} {ca : Nat → ClassId} {A : Nat → Prop} {ad : Nat → Nat} {own : String}
variable {y : MethodName} {bytes : ByteArray} {maxL index nL : Nat} {ret : Option FieldType} {rm : Room} {As : List Value} {st0 : List Value} {r : Int32} {W0 : va_W}
theorem xc_i (n : Nat) {v v' : XS} (cx : KC p c cc s args m own D ca) (hls : ls.size = c.maxLocals) (hM : CM l y bytes maxL ret rm D ca (xw ad ca v) (.ref (ad 0) :: As) (some (.int r)) (xw ad ca v')) (hI : KI D A (xw ad ca v) s.heap H locs)
    (h0 : Cond.code y bytes maxL ret ∈ WL) (h1 : Cond.methodLink own index y ∈ WL) (h2 : Cond.instanceMethod y ∈ WL) (h3 : Cond.selects RX0 y y ∈ WL)
    (hd : y.cls = RX0 ∧ (parseMethodDescriptor y.desc).map (fun d => d.parameters.length) = some n) (hn : As.length = n) (hrm : rm.cells = 0 ∧ rm.slots = 0) (hR : rm.frames + 1 ≤ R.frames ∧ 8 + (maxL + 11) + rm.locals ≤ R.locals) (hW : (rest.map fun v => v.category).sum ≤ 8) (hdg : decode cc pc = .ok (.invokevirtual index, 3)) (hf : cells ≤ R.cells ∧ slots ≤ R.slots)
    (hst : st0 = As.reverse ++ .ref (ad 0) :: rest) (kk : ∀ H1 locs1, KI D A (xw ad ca v') s.heap H1 locs1 → W p l e R s m args below meth c H1 locs1 cells slots Q (F0 m (pc + 3) ls (.int r :: rest))) : W p l e R s m args below meth c H locs cells slots Q (F0 m pc ls st0) :=
  k_callV (C := RX0) (T := TX0) (N := 12) (ci := 0) n [] [] cx hls hM hI (kn0 _) (kn0 _) xw_ad rfl rfl h0 h1 h2 h3 wk_1 ⟨hd.1, by rw [hd.1]; decide, by rw [hd.1]; decide, hd.2⟩ hn hrm hR hW hdg hf hst kk
theorem xc_v (n : Nat) {v v' : XS} (cx : KC p c cc s args m own D ca) (hls : ls.size = c.maxLocals) (hM : CM l y bytes maxL ret rm D ca (xw ad ca v) (.ref (ad 0) :: As) none (xw ad ca v')) (hI : KI D A (xw ad ca v) s.heap H locs)
    (h0 : Cond.code y bytes maxL ret ∈ WL) (h1 : Cond.methodLink own index y ∈ WL) (h2 : Cond.instanceMethod y ∈ WL) (h3 : Cond.selects RX0 y y ∈ WL)
    (hd : y.cls = RX0 ∧ (parseMethodDescriptor y.desc).map (fun d => d.parameters.length) = some n) (hn : As.length = n) (hrm : rm.cells = 0 ∧ rm.slots = 0) (hR : rm.frames + 1 ≤ R.frames ∧ 8 + (maxL + 11) + rm.locals ≤ R.locals) (hW : (rest.map fun v => v.category).sum ≤ 8) (hdg : decode cc pc = .ok (.invokevirtual index, 3)) (hf : cells ≤ R.cells ∧ slots ≤ R.slots)
    (hst : st0 = As.reverse ++ .ref (ad 0) :: rest) (kk : ∀ H1 locs1, KI D A (xw ad ca v') s.heap H1 locs1 → W p l e R s m args below meth c H1 locs1 cells slots Q (F0 m (pc + 3) ls rest)) : W p l e R s m args below meth c H locs cells slots Q (F0 m pc ls st0) :=
  k_callV (C := RX0) (T := TX0) (N := 12) (ci := 0) n [] [] cx hls hM hI (kn0 _) (kn0 _) xw_ad rfl rfl h0 h1 h2 h3 wk_1 ⟨hd.1, by rw [hd.1]; decide, by rw [hd.1]; decide, hd.2⟩ hn hrm hR hW hdg hf hst kk
/-- a static method without a world of its own -/
theorem ks_i (n : Nat) (cx : KC p c cc s args m own D ca) (hls : ls.size = c.maxLocals) (hM : CM l y bytes maxL ret rm D ca [] As (some (.int r)) []) (hI : KI D A W0 s.heap H locs)
    (h0 : Cond.code y bytes maxL ret ∈ WL) (h1 : Cond.methodLink own index y ∈ WL) (h2 : Cond.static y ∈ WL) (h4 : Cond.initialized y.cls ∈ WL)
    (hd : y.cls ≠ "java/lang/invoke/MethodHandle" ∧ y.cls ≠ "java/lang/invoke/VarHandle" ∧ (parseMethodDescriptor y.desc).map (fun d => d.parameters.length) = some n) (hn : As.length = n) (hrm : rm.cells = 0 ∧ rm.slots = 0) (hR : rm.frames + 1 ≤ R.frames ∧ 8 + (maxL + 11) + rm.locals ≤ R.locals) (hW : (rest.map fun v => v.category).sum ≤ 8) (hdg : decode cc pc = .ok (.invokestatic index, 3)) (hf : cells ≤ R.cells ∧ slots ≤ R.slots)
    (hst : st0 = As.reverse ++ rest) (kk : ∀ H1 locs1, KI D A W0 s.heap H1 locs1 → W p l e R s m args below meth c H1 locs1 cells slots Q (F0 m (pc + 3) ls (.int r :: rest))) : W p l e R s m args below meth c H locs cells slots Q (F0 m pc ls st0) :=
  k_callS n W0 [] cx hls hM hI (kn1 _) (kn1 _) rfl h0 h1 h2 h4 hd hn hrm hR hW hdg hf hst kk
end KC2
end
section
/-! MINE: 'throw new E(text)' in the class: one row. -/
def knames : List String := ["java/lang/RuntimeException", "java/lang/Exception"]
section KTHROW
variable {p : Program} {l : Launch} {e : Env} {R : Room} {s : State} {m : MethodId} {args : Array Value} {below : List Frame} {meth : Method} {c : Code} {H : Heap} {locs : List Loc}
variable {cc : ByteArray} {pc : Nat} {ls : Array Slot} {rest : List Value} {D : va_G} {ca : Nat → ClassId} {A : Nat → Prop} {w : va_W} {ψ : String → Prop} {Qc : Array Value → State → Outcome → State → Prop}
theorem kt_X {E : String} {t : State} (hψ : ψ E) (hI : KI D A w s.heap H locs) (h1 : H.size ≤ t.heap.size) (h2 : ∀ q : Nat, q < H.size → t.heap[q]? = H[q]?) : KX D w ψ A E s t := by
  obtain ⟨hP, hD, hS, hA⟩ := hI
  refine ⟨hψ, hP.kept (fun k q hk => h2 q.1 (hP k q hk).lt), Nat.le_trans hS.1 h1, fun q hq hn => ?_⟩
  rw [h2 q (Nat.lt_of_lt_of_le hq hS.1)]
  exact hS.2.1 q hq hn
theorem kt_std {cls text : String} {ik is ic : Nat} (cx : KC p c cc s args m RX0 D ca) (hlS : l.stackTraces = false) (hlk : meth.locks = false) (htab : ∀ x ∈ c.exceptionTable.toList, False) (hE : KE A s s.heap) (hI : KI D A w s.heap H locs) (hls : ls.size = c.maxLocals)
    (hcls : Bundle.fit cls = true) (hk : Cond.classLink RX0 ik cls ∈ WL) (hini : Cond.initialized cls ∈ WL) (hstr : (is, text) ∈ kstrs) (hat : ∀ w ∈ (vx_atS RX0 ic cls knames).filter goodWord, w ∈ WL) (hbad : ∀ w ∈ (vx_atS RX0 ic cls knames).filter (fun w => !goodWord w), w ∈ kws) (hgood : ∀ w ∈ vx_atS RX0 ic cls knames, vx_ot w = true)
    (d0 : decode cc pc = .ok (.new ik, 3)) (d3 : decode cc (pc + 3) = .ok (.dup, 1)) (d4 : decode cc (pc + 4) = .ok (.ldc is, 2)) (d6 : decode cc (pc + 6) = .ok (.invokespecial ic, 3)) (d9 : decode cc (pc + 9) = .ok (.athrow, 1))
    (hR : 6 ≤ R.frames ∧ (rest.map fun v => v.category).sum + 82 ≤ R.locals) (hc : 1 ≤ R.cells ∧ 6 ≤ R.slots) (hψ : ψ cls) :
    W p l e R s m args below meth c H locs 0 0 (vx_MQ below Qc (KX D w ψ A) args s 1 6 A) (F0 m pc ls rest) := by
  obtain ⟨sa, hsa⟩ := hE.2.2.1 _ hstr
  have hw : ∀ w ∈ WL, w.before args s = true := cx.2.2.2.1
  refine vx_throwS (names := knames) (A := A) cx.1 cx.2.1 hlS cx.2.2.1 hcls (by decide) (hw _ hk) (hw _ hini) hsa ?_ ?_ hE.1 hE.2.1 hI.2.2.1 hls d0 d3 d4 d6 d9 (fun x hx => (htab x hx).elim) (Nat.lt_of_lt_of_le (by decide) hR.1) (by show _ + (13 * (2 + 1) + 43) ≤ _; exact hR.2) (by omega) (by omega) hlk (fun t _ h1 h2 => kt_X hψ hI h1 h2) hI.2.2.1.2.2 (Nat.le_refl _) (Nat.le_refl _)
  · exact vx_hat (fun w h => hw w (hat w h)) hbad (fun w h => va_Nw.use (by simp only [kws, List.mem_cons, List.not_mem_nil, or_false] at h; rcases h with rfl | rfl | rfl | rfl | rfl | rfl | rfl <;> rfl) (hE.2.2.2.1 w h))
  · intro w h
    rcases List.mem_cons.mp h with rfl | h
    · rfl
    · rcases List.mem_cons.mp h with rfl | h
      · rfl
      · exact hgood w h
end KTHROW
theorem kt_good {ic : Nat} {cls : String} (h : ∀ w ∈ (vx_atS RX0 ic cls knames).filter goodWord, w ∈ lw_tbl) : ∀ w ∈ (vx_atS RX0 ic cls knames).filter goodWord, w ∈ WL := fun w hw => List.mem_filter.mpr ⟨h w hw, (List.mem_filter.mp hw).2⟩
theorem kt_iob1 : ∀ w ∈ (vx_atS RX0 52 "java/lang/IndexOutOfBoundsException" knames).filter goodWord, w ∈ lw_tbl := by decide +kernel
theorem kt_iob2 : ∀ w ∈ (vx_atS RX0 52 "java/lang/IndexOutOfBoundsException" knames).filter (fun w => !goodWord w), w ∈ kws := by decide +kernel
theorem kt_iob3 : ∀ w ∈ vx_atS RX0 52 "java/lang/IndexOutOfBoundsException" knames, vx_ot w = true := by decide +kernel
theorem kt_iae1 : ∀ w ∈ (vx_atS RX0 63 "java/lang/IllegalArgumentException" knames).filter goodWord, w ∈ lw_tbl := by decide +kernel
theorem kt_iae2 : ∀ w ∈ (vx_atS RX0 63 "java/lang/IllegalArgumentException" knames).filter (fun w => !goodWord w), w ∈ kws := by decide +kernel
theorem kt_iae3 : ∀ w ∈ vx_atS RX0 63 "java/lang/IllegalArgumentException" knames, vx_ot w = true := by decide +kernel
theorem kt_ise1 : ∀ w ∈ (vx_atS RX0 71 "java/lang/IllegalStateException" knames).filter goodWord, w ∈ lw_tbl := by decide +kernel
theorem kt_ise2 : ∀ w ∈ (vx_atS RX0 71 "java/lang/IllegalStateException" knames).filter (fun w => !goodWord w), w ∈ kws := by decide +kernel
theorem kt_ise3 : ∀ w ∈ vx_atS RX0 71 "java/lang/IllegalStateException" knames, vx_ot w = true := by decide +kernel
end
section
/-! MINE: 'throw new NoSuchElementException(text)'. The library's ctorThrowS (JvmDerived/BundleOwnThrow.lean) reads a chain of constructors whose superclass's constructor is entry 7 of each pool; this class's own is entry 13 (and NAMES.whole's word list of it is false). These rows follow ctorThrowS and vx_throwS with the head of the chain put apart; only what a thrower needs is kept of the end. -/
def knX : String := "java/util/NoSuchElementException"
def kn6 : ByteArray := ⟨#[0x2a, 0x2b, 0xb7, 0x00, 0x0d, 0xb1]⟩
theorem kn6_0 : decode kn6 0 = .ok (.aload_n 0, 1) := by decide +kernel
theorem kn6_1 : decode kn6 1 = .ok (.aload_n 1, 1) := by decide +kernel
theorem kn6_2 : decode kn6 2 = .ok (.invokespecial 13, 3) := by decide +kernel
theorem kn6_5 : decode kn6 5 = .ok (.return_, 1) := by decide +kernel
def kn_head : List Cond := Bundle.passSAtoms knX "java/lang/RuntimeException" 13 kn6
def kn_chain : List Cond := Bundle.chainSAtoms "java/lang/RuntimeException" ["java/lang/Exception"]
def kn_tail (own : String) (ic : Nat) : List Cond :=
  [.methodLink own ic (Bundle.initS knX), .instantiable knX 6, .castable knX knX, .selects knX Bundle.tFill0 Bundle.tFill0, .selects knX Bundle.tFill Bundle.tFill,
   .lays knX Bundle.tN "cause" "Ljava/lang/Throwable;", .lays knX Bundle.tN "stackTrace" Bundle.steD, .lays knX Bundle.tN "suppressedExceptions" Bundle.listD, .lays knX Bundle.tN "detailMessage" "Ljava/lang/String;",
   .isRef (.static Bundle.tN "UNASSIGNED_STACK" Bundle.steD), .isRef (.static Bundle.tN "SUPPRESSED_SENTINEL" Bundle.listD),
   .fieldLink Bundle.tN 198 Bundle.tN "backtrace" "Ljava/lang/Object;", .lays Bundle.tN Bundle.tN "backtrace" "Ljava/lang/Object;", .lays knX Bundle.tN "backtrace" "Ljava/lang/Object;"]
def kn_atoms (own : String) (ic : Nat) : List Cond := Bundle.throwableAtoms ++ (Bundle.throwableSAtoms ++ (kn_head ++ (kn_chain ++ kn_tail own ic)))
section KNSEE
variable {p : Program} {l : Launch} {e : Env} {R : Room} {s : State} {m₀ : MethodId} {args : Array Value} {below : List Frame} {meth : Method} {c : Code} {W : State} {locs : List Loc} {cells slots : Nat}
set_option maxHeartbeats 4000000 in
theorem kn_ctor (X : Stand p l e R s m₀ args below meth c W locs cells slots) (hexec : p.tables.exec = Jvm.exec) (htr : e.platform.stackTraces = false) {own : String} {ic : Nat}
    (hown : s.vm.findClass own = some m₀.cls) (h : ∀ a ∈ kn_atoms own ic, a.before args s = true)
    (hlocs : ∀ x ∈ locs, ∀ cell, s.heap[x.base]? = some cell → cell.vm.isStatics = false)
    {a : Addr} {cX : ClassId} {kX : Class} (hfoundX : s.vm.findClass knX = some cX) (hkX : s.vm.classes[cX]? = some kX) (hcell : W.heap[a]? = some (freshCell cX kX)) (hnew : s.heap.size ≤ a)
    {msg : Value} (hmsg : msg.isRef = true)
    {g : JFrame} (hg : g.method = m₀) (hsize : g.locals.size = c.maxLocals) (hlocked : g.locked = none) (hentered : g.entered = []) {rest : List Value} (hstack : g.stack = msg :: .ref a :: .ref a :: rest)
    (hd6 : decode c.code g.pc = .ok (.invokespecial ic, 3)) (hd9 : decode c.code (g.pc + 3) = .ok (.athrow, 1)) (hout : ∀ x ∈ c.exceptionTable.toList, covers x (g.pc + 3) = false)
    (hRframes : 5 < R.frames) (hRlocals : 2 * g.monitorRoom + ((Value.ref a :: rest).map fun v => v.category).sum + (13 * (2 + 1) + 42) ≤ R.locals) (hlocks : meth.locks = false) :
    ∃ U : State, Steps p.tables e below (W.setTop g) U ∧ U.status = .running ∧ Ended U below (.threw a) ∧ s.WarmedH U.vm ∧ s.sameButNew ({ U with vm := s.vm } : State) locs cells slots ∧
      ∃ ce, U.heap[a]? = some ce ∧ s.vm.findClass knX = some ce.cls ∧ ce.vm = .none := by
  have howns : e.platform.frameOwnsMonitors = true := by rw [X.admits.platform]
  have hfin : e.platform.finalization = false := by rw [X.admits.platform]
  have hpl : e.platform.magicAccessors = ({} : Platform).magicAccessors := by rw [X.admits.platform]
  have a' : ∀ x, x ∈ kn_atoms own ic → x.holds args s none s [] = true := fun x hx => h x hx
  have iT : ∀ x, x ∈ Bundle.throwableAtoms → x ∈ kn_atoms own ic := fun x hx => List.mem_append_left _ hx
  have iS : ∀ x, x ∈ Bundle.throwableSAtoms → x ∈ kn_atoms own ic := fun x hx => List.mem_append_right _ (List.mem_append_left _ hx)
  have iH : ∀ x, x ∈ kn_head → x ∈ kn_atoms own ic := fun x hx => List.mem_append_right _ (List.mem_append_right _ (List.mem_append_left _ hx))
  have iC : ∀ x, x ∈ kn_chain → x ∈ kn_atoms own ic := fun x hx => List.mem_append_right _ (List.mem_append_right _ (List.mem_append_right _ (List.mem_append_left _ hx)))
  have iL : ∀ x, x ∈ kn_tail own ic → x ∈ kn_atoms own ic := fun x hx => List.mem_append_right _ (List.mem_append_right _ (List.mem_append_right _ (List.mem_append_right _ hx)))
  obtain ⟨T, Z0, L, -, Y⟩ := ThrowableC.of_atoms (args := args) howns hfin hpl (fun x hx => h x (iT x hx))
  obtain ⟨Z, M, LZ, LM, hnZ⟩ := Init0T.ofS_atoms (args := args) hpl L Y (fun x hx => h x (iS x hx))
  obtain ⟨P2, Ps, hlen, L2, hL, hP2m, hlink2, hlink⟩ := Bundle.chainS (args := args) hpl hnZ ["java/lang/Exception"] "java/lang/RuntimeException" (by decide) (by decide) (fun x hx => h x (iC x hx))
  obtain ⟨P1, L1, hP1m, hsup1⟩ := PassC.ofS_atoms (args := args) (s := s) hpl (X := knX) (Y := "java/lang/RuntimeException") (by decide) (by decide) kn6_0 kn6_1 kn6_2 kn6_5 (fun x hx => h x (iH x hx))
  have hfound : s.vm.findClass knX = some P1.m.cls := findClass_of_methodNamed hP1m
  cases Option.some.inj (hfoundX.symm.trans hfound)
  obtain ⟨c1, kX', hc1, hk, hord, -, -, hn6⟩ := Cond.instantiable_spec (a' (.instantiable knX 6) (iL _ (by simp [kn_tail])))
  cases Option.some.inj (hc1.symm.trans hfound)
  cases Option.some.inj (hkX.symm.trans hk)
  have hsel0 : selectMethod e.platform s.vm P1.m.cls T.fill0 = .method T.fill0 := by
    obtain ⟨c2, r2, m2, q1, q2, q3, q4, -⟩ := Cond.selects_spec (a' (.selects knX Bundle.tFill0 Bundle.tFill0) (iL _ (by simp [kn_tail])))
    cases Option.some.inj (q1.symm.trans hfound)
    cases Option.some.inj (q2.symm.trans (State.methodFound?_of_named Y.fill0 (by decide)))
    cases Option.some.inj (q3.symm.trans Y.fill0)
    rw [Launch.admits_selectMethod X.admits]; exact q4
  have hselF : selectMethod e.platform s.vm P1.m.cls T.fill = .method T.fill := by
    obtain ⟨c2, r2, m2, q1, q2, q3, q4, -⟩ := Cond.selects_spec (a' (.selects knX Bundle.tFill Bundle.tFill) (iL _ (by simp [kn_tail])))
    cases Option.some.inj (q1.symm.trans hfound)
    cases Option.some.inj (q2.symm.trans (State.methodFound?_of_named Y.fill (by decide)))
    cases Option.some.inj (q3.symm.trans Y.fill)
    rw [Launch.admits_selectMethod X.admits]; exact q4
  obtain ⟨cellS0, hcS0, hiss⟩ := Y.statics
  obtain ⟨u0, hu0⟩ := Cond.staticRefV Y.unassigned L.unassignedStatic L.statics hcS0 hiss (a' (.isRef (.static Bundle.tN "UNASSIGNED_STACK" Bundle.steD)) (iL _ (by simp [kn_tail])))
  obtain ⟨sen, hsen⟩ := Cond.staticRefV Y.sentinel L.sentinelStatic L.statics hcS0 hiss (a' (.isRef (.static Bundle.tN "SUPPRESSED_SENTINEL" Bundle.listD)) (iL _ (by simp [kn_tail])))
  obtain ⟨ci198, i198, fB, hk198, hg198, ha198, hsB, -, hnB, htB, hffB⟩ := Cond.ownField (t := .object "java/lang/Object") Y.found L.cls (by decide +kernel) (a' (.fieldLink Bundle.tN 198 Bundle.tN "backtrace" "Ljava/lang/Object;") (iL _ (by simp [kn_tail]))) (a' (.lays Bundle.tN Bundle.tN "backtrace" "Ljava/lang/Object;") (iL _ (by simp [kn_tail]))) e.platform hpl
  obtain ⟨cellS, hcS', heS, -, hkeep⟩ := X.same.2.2.2.2.2 T.aS cellS0 hcS0
  have hcellS : W.heap[T.aS]? = some cellS := hcS'
  have hout' : ∀ i, (⟨T.aS, i⟩ : Loc) ∉ locs := fun i hmem => by
    have := hlocs _ hmem cellS0 hcS0
    rw [hiss] at this; cases this
  have hknownS : cellS.vm ≠ .unknown := by
    rw [heS]; intro hu
    rw [show cellS0.vm = .unknown from hu] at hiss
    cases hiss
  have hneS : T.aS ≠ a := Nat.ne_of_lt (Nat.lt_of_lt_of_le (Array.getElem?_eq_some_iff.mp hcS0).1 hnew)
  obtain ⟨iM, hffM⟩ := Y.msg
  obtain ⟨tyC, dC, hdC, hdnC⟩ := Cond.laysAt hfound hk Y.cause (a' (.lays knX Bundle.tN "cause" "Ljava/lang/Throwable;") (iL _ (by simp [kn_tail])))
  obtain ⟨tyS, dS, hdS, hdnS⟩ := Cond.laysAt hfound hk Y.stack (a' (.lays knX Bundle.tN "stackTrace" Bundle.steD) (iL _ (by simp [kn_tail])))
  obtain ⟨tyP, dP, hdP, hdnP⟩ := Cond.laysAt hfound hk Y.supp (a' (.lays knX Bundle.tN "suppressedExceptions" Bundle.listD) (iL _ (by simp [kn_tail])))
  obtain ⟨tyM, dM, hdM, hdnM⟩ := Cond.laysAt hfound hk hffM (a' (.lays knX Bundle.tN "detailMessage" "Ljava/lang/String;") (iL _ (by simp [kn_tail])))
  obtain ⟨tyB, dB, hdB, hdnB⟩ := Cond.laysAt hfound hk hffB (a' (.lays knX Bundle.tN "backtrace" "Ljava/lang/Object;") (iL _ (by simp [kn_tail])))
  have bC := Cond.laysApart hdB hdC hdnB hdnC (by rw [hnB, Y.causeName]; decide)
  have bS := Cond.laysApart hdB hdS hdnB hdnS (by rw [hnB, Y.stackName]; decide)
  have bP := Cond.laysApart hdB hdP hdnB hdnP (by rw [hnB, Y.suppName]; decide)
  have hskip : SkipFacts T e.platform s (fun u => u) u0 ((preparedCellV T.toThrowableT (freshCell P1.m.cls kX) a u0 sen).withEntry W.cur) :=
    ⟨{ ci198 := ci198, i198 := i198, fBack := fB }, ⟨hk198, hg198, ha198, hsB⟩, by
      have := fresh_default (c := P1.m.cls) tyB
      rw [htB] at this
      simpa [preparedCellV, Cell.setSlot, Cell.withEntry, Array.getElem?_setIfInBounds, bC, bS, bP, bC.symm, bS.symm, bP.symm, defaultValue] using this, fun _ _ => rfl⟩
  obtain ⟨tm, methC, cdC, kC, vm₁, hnC, -, -, -, -, -, -, -, hW₁, st1⟩ := Steps.initColdS (tb := p.tables) (e := e) (below := below) (s := s) (U := W) X.here hexec X.warmed hpl hown (t := Bundle.initS knX) rfl rfl (by decide)
    (a' (.methodLink own ic (Bundle.initS knX)) (iL _ (by simp [kn_tail]))) (h (.instanceMethod (Bundle.initS knX)) (iH _ (by simp [kn_head, Bundle.passSAtoms]))) (bytes := kn6) (maxL := 2) (h (.code (Bundle.initS knX) kn6 2 none) (iH _ (by simp [kn_head, Bundle.passSAtoms])))
    (f := g) hg (a := a) (msg := msg) (rest := .ref a :: rest) hstack hd6
  cases Option.some.inj (hnC.symm.trans hP1m)
  have X₁ := X.noted hW₁
  obtain ⟨vm₂, X₂, st2⟩ := X₁.ctorMessageOffV hexec (g := { g with stack := .ref a :: rest }) hg hsize T L Z LZ M LM (P1 :: P2 :: Ps)
    (fun P hP => by
      rcases List.mem_cons.mp hP with rfl | hP
      · exact L1
      · rcases List.mem_cons.mp hP with rfl | hP
        · exact L2
        · exact hL P hP) ⟨Option.some.inj (hsup1.symm.trans hP2m), hlink2, hlink⟩ (u0 := u0) (sen := sen) (self := a) hmsg (cell := freshCell P1.m.cls kX) (cellS := cellS)
    hcell (fun _ => by simp) (by simp) rfl rfl hsel0 hselF hcellS hneS hknownS (by rw [hkeep _ (hout' _)]; exact hu0) (by rw [hkeep _ (hout' _)]; exact hsen)
    (Takes.of_laid hk hord tyC (by rw [Y.causeType]; rfl)) (Takes.of_laid hk hord tyS (by rw [Y.stackType]; exact fits_refV_array _ u0)) (Takes.of_laid hk hord tyP (by rw [Y.suppType]; exact fits_refV_object _ sen))
    (Takes.of_laid hk hord tyM (by rw [Y.msgType]; exact fits_refV_object _ ⟨msg, hmsg⟩)) Y.objLocals hskip htr [] hd6
    (by simp only [List.length_cons, hlen, List.length_nil]; omega) (by simp only [List.length_cons, hlen, List.length_nil]; exact hRlocals)
  obtain ⟨hwalk, hrun, hended, hWU, hsame⟩ := X₂.athrowLeaves hexec (g := { g with stack := .ref a :: rest, pc := g.pc + 3 }) hg hlocked hentered hout (a := a) (rest := rest) rfl hd9
  have hlt : a < ((W.setVm vm₁).setVm vm₂).heap.size := (Array.getElem?_eq_some_iff.mp hcell).1
  have hU := heapAt_setCell_self (s := (W.setVm vm₁).setVm vm₂) (plainBareV T.toThrowableT (freshCell P1.m.cls kX) a u0 sen msg) hlt
  refine ⟨_, st1 _ (fun acts => ?_), hrun, hended, hWU, hsame.weaken (fun y hy hlt' => ?_) (Nat.le_refl _) (Nat.le_refl _), _, hU, hfound, rfl⟩
  · rw [doInvoke_state]
    exact st2 _ hwalk
  · rcases List.mem_append.mp hy with h1 | h1
    · exact h1
    · exfalso
      have hb : y.base = a := by
        simp only [List.mem_cons, List.not_mem_nil, or_false] at h1
        rcases h1 with rfl | rfl | rfl | rfl | rfl <;> rfl
      rw [hb] at hlt'
      exact Nat.not_lt.mpr hnew hlt'
end KNSEE
def kn_at (own : String) (ic : Nat) : List Cond := (kn_atoms own ic).filter vx_no
section KNTHROW
variable {p : Program} {l : Launch} {e : Env} {R : Room} {s : State} {m : MethodId} {args : Array Value} {below : List Frame} {meth : Method} {c : Code} {H : Heap} {locs : List Loc} {cells slots : Nat} {free : Addr → Prop}
variable {ls : Array Slot} {rest : List Value} {Qc : Array Value → State → Outcome → State → Prop} {XC : String → State → State → Prop}
theorem kn_throw {cc : ByteArray} {pc : Nat} (hexec : p.tables.exec = Jvm.exec) (hb : c.code = cc) (hl : l.stackTraces = false) {own text : String} {ik is ic mc ms sa : Nat} {A : Nat → Prop}
    (hown : s.vm.findClass own = some m.cls) (hk : (Cond.classLink own ik knX).before args s = true) (hini : (Cond.initialized knX).before args s = true) (hstr : vk_R own is text sa s) (hat : ∀ w ∈ kn_at own ic, w.before args s = true)
    (hgood : ∀ w ∈ Cond.classLink own ik knX :: Cond.initialized knX :: kn_at own ic, vx_ot w = true)
    (hU : vx_Zq Bundle.tN "UNASSIGNED_STACK" Bundle.steD A s s.heap) (hN : vx_Zq Bundle.tN "SUPPRESSED_SENTINEL" Bundle.listD A s s.heap) (hS : va_S A s.heap H locs) (hsize : ls.size = c.maxLocals)
    (d0 : decode cc pc = .ok (.new ik, 3)) (d3 : decode cc (pc + 3) = .ok (.dup, 1)) (d4 : decode cc (pc + 4) = .ok (.ldc is, 2)) (d6 : decode cc (pc + 6) = .ok (.invokespecial ic, 3)) (d9 : decode cc (pc + 9) = .ok (.athrow, 1))
    (hout : ∀ x ∈ c.exceptionTable.toList, covers x (pc + 9) = false)
    (hRframes : 5 < R.frames) (hRlocals : (rest.map fun v => v.category).sum + (13 * (2 + 1) + 43) ≤ R.locals) (hRcells : cells + 1 ≤ R.cells) (hRslots : slots + 6 ≤ R.slots) (hlocks : meth.locks = false)
    (hx : ∀ t : State, s.vm.Alike t.vm → H.size ≤ t.heap.size → (∀ q : Nat, q < H.size → t.heap[q]? = H[q]?) → XC knX s t)
    (hf : ∀ z ∈ locs, free z.base) (hc : cells + 1 ≤ mc) (hs : slots + 6 ≤ ms) :
    W p l e R s m args below meth c H locs cells slots (vx_MQ below Qc XC args s mc ms free) (F0 m pc ls rest) := by
  intro T hT X
  have htr : e.platform.stackTraces = false := (show e.platform.stackTraces = l.stackTraces by rw [X.admits.platform]).trans hl
  have Y := vx_rebase X (R' := { frames := R.frames, locals := R.locals, cells := 1, slots := 6 }) (Nat.le_refl _) (Nat.le_refl _) hRcells hRslots
  obtain ⟨s', hA⟩ : ∃ z, z = (T.setVm s.vm).setFrames (.invoking m args :: below) := ⟨_, rfl⟩
  rw [← hA] at Y
  have hvm : s'.vm = s.vm := by rw [hA]; rfl
  have hhp : s'.heap = H := by rw [hA]; exact hT
  have hW0 : s.WarmedH s'.vm := by rw [hvm]; exact State.WarmedH.refl s
  have hat' : ∀ w ∈ kn_at own ic, w.before args s' = true := fun w hw => vx_ot_at hW0 hvm.symm (hgood w (List.mem_cons_of_mem _ (List.mem_cons_of_mem _ hw))) (hat w hw)
  have hk' : (Cond.classLink own ik knX).before args s' = true := vx_ot_at hW0 hvm.symm (hgood _ List.mem_cons_self) hk
  have hini' : (Cond.initialized knX).before args s' = true := vx_ot_at hW0 hvm.symm (hgood _ (List.mem_cons_of_mem _ List.mem_cons_self)) hini
  have hU' : vx_Zq Bundle.tN "UNASSIGNED_STACK" Bundle.steD A s' s'.heap := by rw [hhp]; exact vx_Zq.moved hW0.alike (hU.kept hS.2.1)
  have hN' : vx_Zq Bundle.tN "SUPPRESSED_SENTINEL" Bundle.listD A s' s'.heap := by rw [hhp]; exact vx_Zq.moved hW0.alike (hN.kept hS.2.1)
  have h : ∀ w ∈ kn_atoms own ic, w.before args s' = true := vx_own hat' (vx_isRefq hU'.1) (vx_isRefq hN'.1) hU'.2.word hN'.2.word
  have hown' : s'.vm.findClass own = some m.cls := by rw [hvm]; exact hown
  have hins : (Cond.instantiable knX 6).before args s' = true := h _ (by simp [kn_atoms, kn_tail])
  obtain ⟨vm₁, cX, kX, hfX, hkX, -, -, X₁, st1⟩ := Y.newCold hexec (own := own) (C := knX) (index := ik) (n := 6) hown' hk' hins hini'
    (g := F0 m pc ls rest) rfl (by rw [hb]; exact d0) (Nat.le_refl _) (Nat.le_refl _)
  generalize hT1 : (T.setVm vm₁).pushCell { cls := cX, slots := kX.instanceTypes.map defaultValue, vm := .none } = T1 at X₁ st1
  have hcat : (Value.ref T.heap.size).category = 1 := rfl
  have hcellA : T1.heap[T.heap.size]? = some (freshCell cX kX) := by rw [← hT1]; exact State.heap_pushCell_size _ _
  have d3' : decode c.code (pc + 3) = .ok (.dup, 1) := by rw [hb]; exact d3
  have d4' : decode c.code (pc + 4) = .ok (.ldc is, 2) := by rw [hb]; exact d4
  have hstr' : vk_R own is text sa s' := vk_R.warm hW0 hstr
  obtain ⟨U, hsteps, hrun, hend, hW, hsame, ce, hce, hO1, hO2⟩ := kn_ctor X₁ hexec htr (own := own) (ic := ic) hown' h (fun x hx => nomatch hx) hfX hkX hcellA (by rw [hhp, hT]; exact Nat.le_refl _) (msg := .ref sa) rfl
    (g := { method := m, pc := pc + 6, locals := ls, stack := .ref sa :: .ref T.heap.size :: .ref T.heap.size :: rest, locked := none }) rfl hsize rfl rfl (rest := rest) rfl
    (by rw [hb]; exact d6) (by rw [hb]; exact d9) hout hRframes (by simp only [List.map_cons, List.sum_cons, hcat]; show 2 * 0 + _ + _ ≤ R.locals; omega) hlocks
  obtain ⟨f1, f2⟩ := vx_frame hsame
  rw [hhp] at f1 f2
  have hWs : s.WarmedH U.vm := State.WarmedH.trans hW0 hW
  have hcl : s.vm.findClass knX = some ce.cls := by
    rw [hvm] at hO1
    exact hO1
  have hall : s.sameButNew ({ U with vm := s.vm } : State) locs mc ms := by
    subst hA
    obtain ⟨e1, e2⟩ := hsame
    rw [State.setFrames_setFrames] at e1
    have h2 : (T.setVm s.vm).sameButNew ({ U with vm := s.vm } : State) [] (0 + 1) (0 + 6) := ⟨e1, e2⟩
    have h3 := X.same.trans h2
    rw [List.append_nil] at h3
    exact h3.mono hc hs
  refine ⟨U, ?_, .threw T.heap.size, hrun, hend, Or.inr ⟨T.heap.size, rfl, knX, ce, locs, hx U hWs.alike f1 (fun q hq => f2 q hq (fun z hz => nomatch hz)), hce, hO2, hcl, hWs, hall, hf⟩⟩
  refine st1 _ ?_
  show Steps p.tables e below (T1.setTop { method := m, pc := pc + 3, locals := ls, stack := .ref T.heap.size :: rest, locked := none }) _
  jvm_step X₁.here [X₁.here.top, hexec, d3', Value.category]
  exact X₁.ldcString hexec (own := own) (text := text) (index := is) (a := sa) hown' hstr'.1 hstr'.2
    (g := { method := m, pc := pc + 4, locals := ls, stack := .ref T.heap.size :: .ref T.heap.size :: rest, locked := none }) rfl d4' _ hsteps
end KNTHROW
theorem kn_1 : ∀ w ∈ (kn_at RX0 84).filter goodWord, w ∈ lw_tbl := by decide +kernel
theorem kn_2 : ∀ w ∈ (kn_at RX0 84).filter (fun w => !goodWord w), w ∈ kws := by decide +kernel
theorem kn_3 : ∀ w ∈ kn_at RX0 84, vx_ot w = true := by decide +kernel
section KNT
variable {p : Program} {l : Launch} {e : Env} {R : Room} {s : State} {m : MethodId} {args : Array Value} {below : List Frame} {meth : Method} {c : Code} {H : Heap} {locs : List Loc}
variable {cc : ByteArray} {pc : Nat} {ls : Array Slot} {rest : List Value} {D : va_G} {ca : Nat → ClassId} {A : Nat → Prop} {w : va_W} {ψ : String → Prop} {Qc : Array Value → State → Outcome → State → Prop}
theorem kt_nse {text : String} {is : Nat} (cx : KC p c cc s args m RX0 D ca) (hlS : l.stackTraces = false) (hlk : meth.locks = false) (htab : ∀ x ∈ c.exceptionTable.toList, False) (hE : KE A s s.heap) (hI : KI D A w s.heap H locs) (hls : ls.size = c.maxLocals) (hstr : (is, text) ∈ kstrs)
    (d0 : decode cc pc = .ok (.new 80, 3)) (d3 : decode cc (pc + 3) = .ok (.dup, 1)) (d4 : decode cc (pc + 4) = .ok (.ldc is, 2)) (d6 : decode cc (pc + 6) = .ok (.invokespecial 84, 3)) (d9 : decode cc (pc + 9) = .ok (.athrow, 1))
    (hR : 6 ≤ R.frames ∧ (rest.map fun v => v.category).sum + 82 ≤ R.locals) (hc : 1 ≤ R.cells ∧ 6 ≤ R.slots) (hψ : ψ "java/util/NoSuchElementException") :
    W p l e R s m args below meth c H locs 0 0 (vx_MQ below Qc (KX D w ψ A) args s 1 6 A) (F0 m pc ls rest) := by
  obtain ⟨sa, hsa⟩ := hE.2.2.1 _ hstr
  have hw : ∀ w ∈ WL, w.before args s = true := cx.2.2.2.1
  refine kn_throw (A := A) cx.1 cx.2.1 hlS cx.2.2.1 (hw _ wk_285) (hw _ wk_9) hsa ?_ ?_ hE.1 hE.2.1 hI.2.2.1 hls d0 d3 d4 d6 d9 (fun x hx => (htab x hx).elim) (Nat.lt_of_lt_of_le (by decide) hR.1) hR.2 (by omega) (by omega) hlk (fun t _ h1 h2 => kt_X hψ hI h1 h2) hI.2.2.1.2.2 (Nat.le_refl _) (Nat.le_refl _)
  · exact vx_hat (fun w h => hw w (List.mem_filter.mpr ⟨kn_1 w h, (List.mem_filter.mp h).2⟩)) kn_2 (fun w h => va_Nw.use (by simp only [kws, List.mem_cons, List.not_mem_nil, or_false] at h; rcases h with rfl | rfl | rfl | rfl | rfl | rfl | rfl <;> rfl) (hE.2.2.2.1 w h))
  · intro w h
    rcases List.mem_cons.mp h with rfl | h
    · rfl
    · rcases List.mem_cons.mp h with rfl | h
      · rfl
      · exact kn_3 w h
theorem kt_iob {text : String} {is : Nat} (cx : KC p c cc s args m RX0 D ca) (hlS : l.stackTraces = false) (hlk : meth.locks = false) (htab : ∀ x ∈ c.exceptionTable.toList, False) (hE : KE A s s.heap) (hI : KI D A w s.heap H locs) (hls : ls.size = c.maxLocals) (hstr : (is, text) ∈ kstrs)
    (d0 : decode cc pc = .ok (.new 48, 3)) (d3 : decode cc (pc + 3) = .ok (.dup, 1)) (d4 : decode cc (pc + 4) = .ok (.ldc is, 2)) (d6 : decode cc (pc + 6) = .ok (.invokespecial 52, 3)) (d9 : decode cc (pc + 9) = .ok (.athrow, 1))
    (hR : 6 ≤ R.frames ∧ (rest.map fun v => v.category).sum + 82 ≤ R.locals) (hc : 1 ≤ R.cells ∧ 6 ≤ R.slots) (hψ : ψ "java/lang/IndexOutOfBoundsException") :
    W p l e R s m args below meth c H locs 0 0 (vx_MQ below Qc (KX D w ψ A) args s 1 6 A) (F0 m pc ls rest) :=
  kt_std cx hlS hlk htab hE hI hls (by decide) wk_96 wk_6 hstr (kt_good kt_iob1) kt_iob2 kt_iob3 d0 d3 d4 d6 d9 hR hc hψ
theorem kt_iae {text : String} {is : Nat} (cx : KC p c cc s args m RX0 D ca) (hlS : l.stackTraces = false) (hlk : meth.locks = false) (htab : ∀ x ∈ c.exceptionTable.toList, False) (hE : KE A s s.heap) (hI : KI D A w s.heap H locs) (hls : ls.size = c.maxLocals) (hstr : (is, text) ∈ kstrs)
    (d0 : decode cc pc = .ok (.new 59, 3)) (d3 : decode cc (pc + 3) = .ok (.dup, 1)) (d4 : decode cc (pc + 4) = .ok (.ldc is, 2)) (d6 : decode cc (pc + 6) = .ok (.invokespecial 63, 3)) (d9 : decode cc (pc + 9) = .ok (.athrow, 1))
    (hR : 6 ≤ R.frames ∧ (rest.map fun v => v.category).sum + 82 ≤ R.locals) (hc : 1 ≤ R.cells ∧ 6 ≤ R.slots) (hψ : ψ "java/lang/IllegalArgumentException") :
    W p l e R s m args below meth c H locs 0 0 (vx_MQ below Qc (KX D w ψ A) args s 1 6 A) (F0 m pc ls rest) :=
  kt_std cx hlS hlk htab hE hI hls (by decide) wk_229 wk_7 hstr (kt_good kt_iae1) kt_iae2 kt_iae3 d0 d3 d4 d6 d9 hR hc hψ
theorem kt_ise {text : String} {is : Nat} (cx : KC p c cc s args m RX0 D ca) (hlS : l.stackTraces = false) (hlk : meth.locks = false) (htab : ∀ x ∈ c.exceptionTable.toList, False) (hE : KE A s s.heap) (hI : KI D A w s.heap H locs) (hls : ls.size = c.maxLocals) (hstr : (is, text) ∈ kstrs)
    (d0 : decode cc pc = .ok (.new 67, 3)) (d3 : decode cc (pc + 3) = .ok (.dup, 1)) (d4 : decode cc (pc + 4) = .ok (.ldc is, 2)) (d6 : decode cc (pc + 6) = .ok (.invokespecial 71, 3)) (d9 : decode cc (pc + 9) = .ok (.athrow, 1))
    (hR : 6 ≤ R.frames ∧ (rest.map fun v => v.category).sum + 82 ≤ R.locals) (hc : 1 ≤ R.cells ∧ 6 ≤ R.slots) (hψ : ψ "java/lang/IllegalStateException") :
    W p l e R s m args below meth c H locs 0 0 (vx_MQ below Qc (KX D w ψ A) args s 1 6 A) (F0 m pc ls rest) :=
  kt_std cx hlS hlk htab hE hI hls (by decide) wk_249 wk_8 hstr (kt_good kt_ise1) kt_ise2 kt_ise3 d0 d3 d4 d6 d9 hR hc hψ
end KNT
end
section
/-! MINE: what each method of the class does to its state, as a function (the class's own words). -/
def xWithin (x a b : Int32) : Bool := !decide (x < a) && !decide (b < x)
def xFits (v : XS) (b : Int32) : Bool := !decide (xt v = 1) || !decide (xq v < b)
def xCbw (v : XS) (a b : Int32) : Bool := xWithin a 0 999 && (xWithin b 0 999 && (!decide (xp v = 2) || xFits v b))
def xOld (v : XS) (k : Int32) : Bool := !decide (xA v k.toNatClampNeg = -1)
def xSh (v : XS) (k : Int32) : Bool := !decide (xC v 0 k.toNatClampNeg = -1)
def xSeen (v : XS) (k : Int32) : Bool := xOld v k && (!decide (xp v = 2) || xSh v k)
def xRow (v : XS) (k : Int32) : Int32 := 1000 * xA v k.toNatClampNeg + xB v k.toNatClampNeg
def xPut (v : XS) (k a b : Int32) : XS := xUB (xUA v (upd (xA v) k.toNatClampNeg a)) (upd (xB (xUA v (upd (xA v) k.toNatClampNeg a))) k.toNatClampNeg b)
def xDig (b : Int32) : Int32 := if 10 ≤ b then (if 100 ≤ b then 3 else 2) else 1
def xMid (v : XS) (a b : Int32) : Int32 := if xt v = 0 then a - a / 100 * 100 else if xt v = 1 then b else b * xq v
def xLast (v : XS) (b : Int32) : Int32 := if xt v = 0 then b else if xt v = 1 then 0 else xDig b
def xAlt (v : XS) (a b c : Int32) : Int32 := if c = 0 then (if xt v = 0 then a / 100 else a) else if c = 1 then xMid v a b else xLast v b
def xBro (v : XS) (k c : Int32) : Int32 := if xOld v k && xFits v (xB v k.toNatClampNeg) then xAlt v (xA v k.toNatClampNeg) (xB v k.toNatClampNeg) c else -1
def xBr (v : XS) (k c : Int32) (j : Nat) : XS := xUC v j (upd (xC v j) k.toNatClampNeg (xBro v k c))
def xBr3 (v : XS) (k : Int32) : XS := xBr (xBr (xBr v k 0 0) k 1 1) k 2 2
def xBring (v : XS) (k : Int32) : XS := xUR (xBr3 v k) (upd (xR (xBr3 v k)) k.toNatClampNeg (vp_nar .boolean (b2i (xOld (xBr3 v k) k && !xFits (xBr3 v k) (xB (xBr3 v k) k.toNatClampNeg)))))
def xBeh (v : XS) (k : Int32) : Bool := !decide (xC v 0 k.toNatClampNeg = xBro v k 0) || (!decide (xC v 1 k.toNatClampNeg = xBro v k 1) || !decide (xC v 2 k.toNatClampNeg = xBro v k 2))
def xNote (v : XS) (k : Int32) : XS := if 1024 ≤ xc v then v else xUc (xUN v (upd (xN v) (xc v).toNatClampNeg k)) (xc (xUN v (upd (xN v) (xc v).toNatClampNeg k)) + 1)
def xFollow (v : XS) (k : Int32) : XS := if xp v = 1 then xNote v k else if xp v = 2 then xBring v k else v
/-- sums over keys -/
def kSum (f : Nat → Int32) : Nat → Int32
  | 0 => 0
  | n + 1 => kSum f n + f n
def xRows (v : XS) : Nat → Int32 := kSum (fun i => b2i (xSeen v (nI i)))
def xShRows (v : XS) : Nat → Int32 := kSum (fun i => b2i (xSh v (nI i)))
def xBehinds (v : XS) : Nat → Int32 := kSum (fun i => b2i (xBeh v (nI i)))
def xSum (v : XS) (c : Int32) : Nat → Int32 := kSum (fun i => if xSh v (nI i) then xC v c.toNatClampNeg (nI i).toNatClampNeg else 0)
def xSumAt (v : XS) (c : Int32) : Nat → Int32 := kSum (fun i => if xBro v (nI i) c = -1 then 0 else xBro v (nI i) c)
theorem xRows_t {v : XS} {i : Nat} (h : xSeen v (nI i) = true) : xRows v (i + 1) = xRows v i + 1 := by simp [xRows, kSum, h, b2i]
theorem xRows_f {v : XS} {i : Nat} (h : xSeen v (nI i) = false) : xRows v (i + 1) = xRows v i := by simp [xRows, kSum, h, b2i]
theorem xShRows_t {v : XS} {i : Nat} (h : xSh v (nI i) = true) : xShRows v (i + 1) = xShRows v i + 1 := by simp [xShRows, kSum, h, b2i]
theorem xShRows_f {v : XS} {i : Nat} (h : xSh v (nI i) = false) : xShRows v (i + 1) = xShRows v i := by simp [xShRows, kSum, h, b2i]
theorem xBehinds_t {v : XS} {i : Nat} (h : xBeh v (nI i) = true) : xBehinds v (i + 1) = xBehinds v i + 1 := by simp [xBehinds, kSum, h, b2i]
theorem xBehinds_f {v : XS} {i : Nat} (h : xBeh v (nI i) = false) : xBehinds v (i + 1) = xBehinds v i := by simp [xBehinds, kSum, h, b2i]
theorem xSum_t {v : XS} {c : Int32} {i : Nat} (h : xSh v (nI i) = true) : xSum v c (i + 1) = xSum v c i + xC v c.toNatClampNeg (nI i).toNatClampNeg := by simp [xSum, kSum, h]
theorem xSum_f {v : XS} {c : Int32} {i : Nat} (h : xSh v (nI i) = false) : xSum v c (i + 1) = xSum v c i := by simp [xSum, kSum, h]
theorem xSumAt_t {v : XS} {c : Int32} {i : Nat} (h : xBro v (nI i) c = -1) : xSumAt v c (i + 1) = xSumAt v c i := by simp [xSumAt, kSum, h]
theorem xSumAt_f {v : XS} {c : Int32} {i : Nat} (h : ¬ xBro v (nI i) c = -1) : xSumAt v c (i + 1) = xSumAt v c i + xBro v (nI i) c := by simp [xSumAt, kSum, h]
/-- rows that are not in the shadow go -/
def xGo (v : XS) (i : Nat) : Bool := xOld v (nI i) && !xSh v (nI i)
def xRem (v : XS) : Nat → XS
  | 0 => v
  | n + 1 => if xGo (xRem v n) n then xPut (xRem v n) (nI n) (-1) (-1) else xRem v n
def xRemN (v : XS) : Nat → Int32
  | 0 => 0
  | n + 1 => xRemN v n + b2i (xGo (xRem v n) n)
def xCopyE (v : XS) : Int32 := if (40 : Int32) < xm v + xk v then 40 else xm v + xk v
def xCopyL (v : XS) (mk : Nat) : Nat → XS
  | 0 => v
  | n + 1 => xBring (xCopyL v mk n) (nI (mk + n))
def xCopy (v : XS) (mk n : Nat) : XS := xUm (xCopyL v mk n) (xCopyE v)
def xPlayL (v : XS) : Nat → XS
  | 0 => v
  | n + 1 => xBring (xPlayL v n) (xN (xPlayL v n) (nI n).toNatClampNeg)
def xPlayC (v : XS) (c : Nat) : XS := xUc (xPlayL v c) (xc (xPlayL v c) - nI c)
def xPlay (v : XS) (c : Nat) : XS := xUN (xPlayC v c) (va_cpy (xN (xPlayC v c)) (xN (xPlayC v c)) (nI c).toNatClampNeg (0 : Int32).toNatClampNeg (xc (xPlayC v c)).toNatClampNeg)
def kFill (n : Nat) (y : Int32) (f : Nat → Int32) : Nat → Int32 := fun j => if j < n then y else f j
def xClr (v : XS) : Nat → XS
  | 0 => v
  | n + 1 => xUC (xClr v n) (nI n).toNatClampNeg (kFill 40 (-1) (xC (xClr v n) (nI n).toNatClampNeg))
def xUnr (v : XS) : Nat → XS
  | 0 => v
  | n + 1 => xUR (xUnr v n) (upd (xR (xUnr v n)) (nI n).toNatClampNeg (vp_nar .boolean 0))
def xEnd (v : XS) : XS := xUp (xUc (xUnr (xClr v 3) 40) 0) 0
theorem xPlayL_N (v : XS) (n : Nat) : xN (xPlayL v n) = xN v := by
  induction n with
  | zero => rfl
  | succ n ih => exact ih
theorem xPlayL_c (v : XS) (n : Nat) : xc (xPlayL v n) = xc v := by
  induction n with
  | zero => rfl
  | succ n ih => exact ih
theorem xWithin_in {x : Int32} {n : Nat} {N : Int32} (hN : N.toInt = n) (h : xWithin x 0 N = true) : vp_in x (n + 1) := by
  simp only [xWithin, Bool.and_eq_true, Bool.not_eq_true', decide_eq_false_iff_not] at h
  rw [vp_in_iff]
  rw [Int32.lt_iff_toInt_lt, Int32.lt_iff_toInt_lt, hN] at h
  have h0 : (0 : Int32).toInt = 0 := rfl
  omega
theorem xKey_in {x : Int32} (h : xWithin x 0 39 = true) : vp_in x 40 := xWithin_in (n := 39) rfl h
theorem xCol_in {x : Int32} (h : xWithin x 0 2 = true) : vp_in x 3 := xWithin_in (n := 2) rfl h
section KMM
variable {p : Program} {l : Launch} {e : Env} {R : Room} {s : State} {m : MethodId} {args : Array Value} {below : List Frame} {meth : Method} {c : Code} {H : Heap} {locs : List Loc} {cells slots : Nat} {Q : State → Prop}
variable {cc : ByteArray} {pc : Nat} {ls : Array Slot} {rest : List Value} {D : va_G} {ca : Nat → ClassId} {A : Nat → Prop} {ad : Nat → Nat} {own : String} {index : Nat} {x y : Int32}
theorem k_mmin (cx : KC p c cc s args m own D ca) (hls : c.maxLocals = ls.size) (hlink : (Cond.methodLink own index (⟨"java/lang/Math", "min", "(II)I"⟩ : MethodName)).before args s = true) (hframes : 1 ≤ R.frames) (hlocals : (rest.map fun v => v.category).sum + 13 ≤ R.locals) (hc : cells ≤ R.cells) (hs : slots ≤ R.slots) (hdg : decode cc pc = .ok (.invokestatic index, 3))
    (kk : W p l e R s m args below meth c H locs cells slots Q (F0 m (pc + 3) ls (.int (if y < x then y else x) :: rest))) : W p l e R s m args below meth c H locs cells slots Q (F0 m pc ls (.int y :: .int x :: rest)) :=
  va_mmin cx.1 cx.2.1 hls cx.2.2.1 hlink (cx.2.2.2.1 _ wk_313) (cx.2.2.2.1 _ wk_10) (cx.2.2.2.1 _ wk_314) hframes hlocals hc hs hdg kk
theorem k_mmax (cx : KC p c cc s args m own D ca) (hls : c.maxLocals = ls.size) (hlink : (Cond.methodLink own index (⟨"java/lang/Math", "max", "(II)I"⟩ : MethodName)).before args s = true) (hframes : 1 ≤ R.frames) (hlocals : (rest.map fun v => v.category).sum + 13 ≤ R.locals) (hc : cells ≤ R.cells) (hs : slots ≤ R.slots) (hdg : decode cc pc = .ok (.invokestatic index, 3))
    (kk : W p l e R s m args below meth c H locs cells slots Q (F0 m (pc + 3) ls (.int (if x < y then y else x) :: rest))) : W p l e R s m args below meth c H locs cells slots Q (F0 m pc ls (.int y :: .int x :: rest)) :=
  va_mmax cx.1 cx.2.1 hls cx.2.2.1 hlink (cx.2.2.2.1 _ wk_316) (cx.2.2.2.1 _ wk_10) (cx.2.2.2.1 _ wk_317) hframes hlocals hc hs hdg kk
end KMM
theorem kin_of {x N : Int32} {n : Nat} (h0 : ¬ x < 0) (h : ¬ N ≤ x) (hN : N.toInt = n := by rfl) : vp_in x n := by
  rw [vp_in_iff]
  rw [Int32.lt_iff_toInt_lt] at h0
  rw [Int32.le_iff_toInt_le, hN] at h
  have e0 : (0 : Int32).toInt = 0 := rfl
  omega
end
section
set_option maxHeartbeats 4000000 in
set_option maxRecDepth 100000 in
theorem kX0_isWithin (l : Launch) (D : va_G) (ca : Nat → ClassId) (x a b : Int32) : CM l yX0_isWithin cX0_isWithin 3 (some .boolean) (KR 0 0) D ca [] [.int x, .int a, .int b] (some (.int (b2i (xWithin x a b)))) [] := by
  refine CM.of (by decide) (Nat.le_of_ble_eq_true rfl) ?_
  intro p e s m below meth c A ls cx hml hr hlk hI hl
  have hl : lv_has ls 3 [(0, .int x), (1, .int a), (2, .int b)] := hl
  refine lv_iload_n cx.1 cx.2.1 dX0_isWithin_0 rfl (lv_at hl 0 rfl) ?_
  refine lv_iload_n cx.1 cx.2.1 dX0_isWithin_1 rfl (lv_at hl 1 rfl) ?_
  refine lv_icmp_lt (tgt := 14) cx.1 cx.2.1 dX0_isWithin_2 (by decide) (fun c_1 => ?_) (fun c_1 => ?_)
  · refine lv_iconst (v := 0) cx.1 cx.2.1 dX0_isWithin_14 (by decide) ?_
    exact ke_z cx hr hlk hI (Nat.zero_le _) (Nat.zero_le _) dX0_isWithin_15 rfl (congrArg (fun z => some (Value.int z)) (by simp [xWithin, b2i, c_1])) rfl
  · refine lv_iload_n cx.1 cx.2.1 dX0_isWithin_5 rfl (lv_at hl 0 rfl) ?_
    refine lv_iload_n cx.1 cx.2.1 dX0_isWithin_6 rfl (lv_at hl 2 rfl) ?_
    refine lv_icmp_gt (tgt := 14) cx.1 cx.2.1 dX0_isWithin_7 (by decide) (fun c_2 => ?_) (fun c_2 => ?_)
    · refine lv_iconst (v := 0) cx.1 cx.2.1 dX0_isWithin_14 (by decide) ?_
      exact ke_z cx hr hlk hI (Nat.zero_le _) (Nat.zero_le _) dX0_isWithin_15 rfl (congrArg (fun z => some (Value.int z)) (by simp [xWithin, b2i, c_1, c_2])) rfl
    · refine lv_iconst (v := 1) cx.1 cx.2.1 dX0_isWithin_10 (by decide) ?_
      refine lv_goto (tgt := 15) cx.1 cx.2.1 dX0_isWithin_11 (by decide) ?_
      exact ke_z cx hr hlk hI (Nat.zero_le _) (Nat.zero_le _) dX0_isWithin_15 rfl (congrArg (fun z => some (Value.int z)) (by simp [xWithin, b2i, c_1, c_2])) rfl
set_option maxHeartbeats 4000000 in
set_option maxRecDepth 100000 in
theorem kX0_isKey (l : Launch) (D : va_G) (ca : Nat → ClassId) (key : Int32) : CM l yX0_isKey cX0_isKey 1 (some .boolean) (KR 1 22) D ca [] [.int key] (some (.int (b2i (xWithin key 0 39)))) [] := by
  refine CM.of (by decide) (Nat.le_of_ble_eq_true rfl) ?_
  intro p e s m below meth c A ls cx hml hr hlk hI hl
  have hl : lv_has ls 1 [(0, .int key)] := hl
  refine lv_iload_n cx.1 cx.2.1 dX0_isKey_0 rfl (lv_at hl 0 rfl) ?_
  refine lv_iconst (v := 0) cx.1 cx.2.1 dX0_isKey_1 (by decide) ?_
  refine lv_bipush (v := 39) cx.1 cx.2.1 dX0_isKey_2 (by decide) ?_
  refine ks_i 3 cx (hl.1.trans hml.symm) (kX0_isWithin l D ca key 0 39) hI wk_92 wk_90 wk_91 wk_1 ⟨by decide, by decide, by decide +kernel⟩ rfl ⟨rfl, rfl⟩ ⟨Nat.le_of_ble_eq_true rfl, Nat.le_of_ble_eq_true rfl⟩ (Nat.le_of_ble_eq_true rfl) dX0_isKey_4 ⟨Nat.zero_le _, Nat.zero_le _⟩ rfl (fun H locs hI => ?_)
  exact ke_z cx hr hlk hI (Nat.zero_le _) (Nat.zero_le _) dX0_isKey_7 (b2i_nar _) rfl rfl
set_option maxHeartbeats 4000000 in
set_option maxRecDepth 100000 in
theorem kX0_isColumn (l : Launch) (D : va_G) (ca : Nat → ClassId) (col : Int32) : CM l yX0_isColumn cX0_isColumn 1 (some .boolean) (KR 1 22) D ca [] [.int col] (some (.int (b2i (xWithin col 0 2)))) [] := by
  refine CM.of (by decide) (Nat.le_of_ble_eq_true rfl) ?_
  intro p e s m below meth c A ls cx hml hr hlk hI hl
  have hl : lv_has ls 1 [(0, .int col)] := hl
  refine lv_iload_n cx.1 cx.2.1 dX0_isColumn_0 rfl (lv_at hl 0 rfl) ?_
  refine lv_iconst (v := 0) cx.1 cx.2.1 dX0_isColumn_1 (by decide) ?_
  refine lv_iconst (v := 2) cx.1 cx.2.1 dX0_isColumn_2 (by decide) ?_
  refine ks_i 3 cx (hl.1.trans hml.symm) (kX0_isWithin l D ca col 0 2) hI wk_92 wk_90 wk_91 wk_1 ⟨by decide, by decide, by decide +kernel⟩ rfl ⟨rfl, rfl⟩ ⟨Nat.le_of_ble_eq_true rfl, Nat.le_of_ble_eq_true rfl⟩ (Nat.le_of_ble_eq_true rfl) dX0_isColumn_3 ⟨Nat.zero_le _, Nat.zero_le _⟩ rfl (fun H locs hI => ?_)
  exact ke_z cx hr hlk hI (Nat.zero_le _) (Nat.zero_le _) dX0_isColumn_6 (b2i_nar _) rfl rfl
set_option maxHeartbeats 4000000 in
set_option maxRecDepth 100000 in
theorem kX0_fits (l : Launch) (D : va_G) (ca : Nat → ClassId) (ad : Nat → Nat) (v : XS) (b : Int32) : CM l yX0_fits cX0_fits 2 (some .boolean) (KR 0 0) D ca (xw ad ca v) [.ref (ad 0), .int b] (some (.int (b2i (xFits v b)))) (xw ad ca v) := by
  refine CM.of (by decide) (Nat.le_of_ble_eq_true rfl) ?_
  intro p e s m below meth c A ls cx hml hr hlk hI hl
  have hl : lv_has ls 2 [(0, .ref (ad 0)), (1, .int b)] := hl
  refine lv_aload_n cx.1 cx.2.1 dX0_fits_0 rfl (lv_at hl 0 rfl) ?_
  refine xg_8 cx hI dX0_fits_1 ?_
  refine lv_iconst (v := 1) cx.1 cx.2.1 dX0_fits_4 (by decide) ?_
  refine lv_icmp_ne (tgt := 16) cx.1 cx.2.1 dX0_fits_5 (by decide) (fun c_1 => ?_) (fun c_1 => ?_)
  · refine lv_iconst (v := 1) cx.1 cx.2.1 dX0_fits_16 (by decide) ?_
    refine lv_goto (tgt := 21) cx.1 cx.2.1 dX0_fits_17 (by decide) ?_
    exact ke_z cx hr hlk hI (Nat.zero_le _) (Nat.zero_le _) dX0_fits_21 rfl (congrArg (fun z => some (Value.int z)) (by simp [xFits, b2i, c_1])) rfl
  · refine lv_iload_n cx.1 cx.2.1 dX0_fits_8 rfl (lv_at hl 1 rfl) ?_
    refine lv_aload_n cx.1 cx.2.1 dX0_fits_9 rfl (lv_at hl 0 rfl) ?_
    refine xg_9 cx hI dX0_fits_10 ?_
    refine lv_icmp_gt (tgt := 20) cx.1 cx.2.1 dX0_fits_13 (by decide) (fun c_2 => ?_) (fun c_2 => ?_)
    · refine lv_iconst (v := 0) cx.1 cx.2.1 dX0_fits_20 (by decide) ?_
      exact ke_z cx hr hlk hI (Nat.zero_le _) (Nat.zero_le _) dX0_fits_21 rfl (congrArg (fun z => some (Value.int z)) (by simp [xFits, b2i, c_1, c_2])) rfl
    · refine lv_iconst (v := 1) cx.1 cx.2.1 dX0_fits_16 (by decide) ?_
      refine lv_goto (tgt := 21) cx.1 cx.2.1 dX0_fits_17 (by decide) ?_
      exact ke_z cx hr hlk hI (Nat.zero_le _) (Nat.zero_le _) dX0_fits_21 rfl (congrArg (fun z => some (Value.int z)) (by simp [xFits, b2i, c_1, c_2])) rfl
set_option maxHeartbeats 4000000 in
set_option maxRecDepth 100000 in
theorem kX0_canBeWritten (l : Launch) (D : va_G) (ca : Nat → ClassId) (ad : Nat → Nat) (v : XS) (a b : Int32) : CM l yX0_canBeWritten cX0_canBeWritten 3 (some .boolean) (KR 1 22) D ca (xw ad ca v) [.ref (ad 0), .int a, .int b] (some (.int (b2i (xCbw v a b)))) (xw ad ca v) := by
  refine CM.of (by decide) (Nat.le_of_ble_eq_true rfl) ?_
  intro p e s m below meth c A ls cx hml hr hlk hI hl
  have hl : lv_has ls 3 [(0, .ref (ad 0)), (1, .int a), (2, .int b)] := hl
  refine lv_iload_n cx.1 cx.2.1 dX0_canBeWritten_0 rfl (lv_at hl 1 rfl) ?_
  refine lv_iconst (v := 0) cx.1 cx.2.1 dX0_canBeWritten_1 (by decide) ?_
  refine lv_sipush (v := 999) cx.1 cx.2.1 dX0_canBeWritten_2 (by decide) ?_
  refine ks_i 3 cx (hl.1.trans hml.symm) (kX0_isWithin l D ca a 0 999) hI wk_92 wk_90 wk_91 wk_1 ⟨by decide, by decide, by decide +kernel⟩ rfl ⟨rfl, rfl⟩ ⟨Nat.le_of_ble_eq_true rfl, Nat.le_of_ble_eq_true rfl⟩ (Nat.le_of_ble_eq_true rfl) dX0_canBeWritten_5 ⟨Nat.zero_le _, Nat.zero_le _⟩ rfl (fun H locs hI => ?_)
  refine kb_eq (tgt := 42) cx dX0_canBeWritten_8 (by decide) (fun c_1 => ?_) (fun c_1 => ?_)
  · refine lv_iconst (v := 0) cx.1 cx.2.1 dX0_canBeWritten_42 (by decide) ?_
    exact ke_z cx hr hlk hI (Nat.zero_le _) (Nat.zero_le _) dX0_canBeWritten_43 rfl (congrArg (fun z => some (Value.int z)) (by simp [xCbw, b2i, c_1])) rfl
  · refine lv_iload_n cx.1 cx.2.1 dX0_canBeWritten_11 rfl (lv_at hl 2 rfl) ?_
    refine lv_iconst (v := 0) cx.1 cx.2.1 dX0_canBeWritten_12 (by decide) ?_
    refine lv_sipush (v := 999) cx.1 cx.2.1 dX0_canBeWritten_13 (by decide) ?_
    refine ks_i 3 cx (hl.1.trans hml.symm) (kX0_isWithin l D ca b 0 999) hI wk_92 wk_90 wk_91 wk_1 ⟨by decide, by decide, by decide +kernel⟩ rfl ⟨rfl, rfl⟩ ⟨Nat.le_of_ble_eq_true rfl, Nat.le_of_ble_eq_true rfl⟩ (Nat.le_of_ble_eq_true rfl) dX0_canBeWritten_16 ⟨Nat.zero_le _, Nat.zero_le _⟩ rfl (fun H locs hI => ?_)
    refine kb_eq (tgt := 42) cx dX0_canBeWritten_19 (by decide) (fun c_2 => ?_) (fun c_2 => ?_)
    · refine lv_iconst (v := 0) cx.1 cx.2.1 dX0_canBeWritten_42 (by decide) ?_
      exact ke_z cx hr hlk hI (Nat.zero_le _) (Nat.zero_le _) dX0_canBeWritten_43 rfl (congrArg (fun z => some (Value.int z)) (by simp [xCbw, b2i, c_1, c_2])) rfl
    · refine lv_aload_n cx.1 cx.2.1 dX0_canBeWritten_22 rfl (lv_at hl 0 rfl) ?_
      refine xg_6 cx hI dX0_canBeWritten_23 ?_
      refine lv_iconst (v := 2) cx.1 cx.2.1 dX0_canBeWritten_26 (by decide) ?_
      refine lv_icmp_ne (tgt := 38) cx.1 cx.2.1 dX0_canBeWritten_27 (by decide) (fun c_3 => ?_) (fun c_3 => ?_)
      · refine lv_iconst (v := 1) cx.1 cx.2.1 dX0_canBeWritten_38 (by decide) ?_
        refine lv_goto (tgt := 43) cx.1 cx.2.1 dX0_canBeWritten_39 (by decide) ?_
        exact ke_z cx hr hlk hI (Nat.zero_le _) (Nat.zero_le _) dX0_canBeWritten_43 rfl (congrArg (fun z => some (Value.int z)) (by simp [xCbw, b2i, c_1, c_2, c_3])) rfl
      · refine lv_aload_n cx.1 cx.2.1 dX0_canBeWritten_30 rfl (lv_at hl 0 rfl) ?_
        refine lv_iload_n cx.1 cx.2.1 dX0_canBeWritten_31 rfl (lv_at hl 2 rfl) ?_
        refine xc_i 1 cx (hl.1.trans hml.symm) (kX0_fits l D ca ad v b) hI wk_195 wk_192 wk_194 wq_5 ⟨rfl, by decide +kernel⟩ rfl ⟨rfl, rfl⟩ ⟨Nat.le_of_ble_eq_true rfl, Nat.le_of_ble_eq_true rfl⟩ (Nat.le_of_ble_eq_true rfl) dX0_canBeWritten_32 ⟨Nat.zero_le _, Nat.zero_le _⟩ rfl (fun H locs hI => ?_)
        refine kb_eq (tgt := 42) cx dX0_canBeWritten_35 (by decide) (fun c_4 => ?_) (fun c_4 => ?_)
        · refine lv_iconst (v := 0) cx.1 cx.2.1 dX0_canBeWritten_42 (by decide) ?_
          exact ke_z cx hr hlk hI (Nat.zero_le _) (Nat.zero_le _) dX0_canBeWritten_43 rfl (congrArg (fun z => some (Value.int z)) (by simp [xCbw, b2i, c_1, c_2, c_3, c_4])) rfl
        · refine lv_iconst (v := 1) cx.1 cx.2.1 dX0_canBeWritten_38 (by decide) ?_
          refine lv_goto (tgt := 43) cx.1 cx.2.1 dX0_canBeWritten_39 (by decide) ?_
          exact ke_z cx hr hlk hI (Nat.zero_le _) (Nat.zero_le _) dX0_canBeWritten_43 rfl (congrArg (fun z => some (Value.int z)) (by simp [xCbw, b2i, c_1, c_2, c_3, c_4])) rfl
set_option maxHeartbeats 4000000 in
set_option maxRecDepth 100000 in
theorem kX0_isInOld (l : Launch) (D : va_G) (ca : Nat → ClassId) (ad : Nat → Nat) (v : XS) (key : Int32) (hk : vp_in key 40) : CM l yX0_isInOld cX0_isInOld 2 (some .boolean) (KR 0 0) D ca (xw ad ca v) [.ref (ad 0), .int key] (some (.int (b2i (xOld v key)))) (xw ad ca v) := by
  refine CM.of (by decide) (Nat.le_of_ble_eq_true rfl) ?_
  intro p e s m below meth c A ls cx hml hr hlk hI hl
  have hl : lv_has ls 2 [(0, .ref (ad 0)), (1, .int key)] := hl
  refine lv_aload_n cx.1 cx.2.1 dX0_isInOld_0 rfl (lv_at hl 0 rfl) ?_
  refine xg_0 cx hI dX0_isInOld_1 ?_
  refine lv_iload_n cx.1 cx.2.1 dX0_isInOld_4 rfl (lv_at hl 1 rfl) ?_
  refine xa_A cx hI hk dX0_isInOld_5 ?_
  refine lv_iconst (v := (-1)) cx.1 cx.2.1 dX0_isInOld_6 (by decide) ?_
  refine lv_icmp_eq (tgt := 14) cx.1 cx.2.1 dX0_isInOld_7 (by decide) (fun c_1 => ?_) (fun c_1 => ?_)
  · refine lv_iconst (v := 0) cx.1 cx.2.1 dX0_isInOld_14 (by decide) ?_
    exact ke_z cx hr hlk hI (Nat.zero_le _) (Nat.zero_le _) dX0_isInOld_15 rfl (congrArg (fun z => some (Value.int z)) (by simp [xOld, b2i, c_1])) rfl
  · refine lv_iconst (v := 1) cx.1 cx.2.1 dX0_isInOld_10 (by decide) ?_
    refine lv_goto (tgt := 15) cx.1 cx.2.1 dX0_isInOld_11 (by decide) ?_
    exact ke_z cx hr hlk hI (Nat.zero_le _) (Nat.zero_le _) dX0_isInOld_15 rfl (congrArg (fun z => some (Value.int z)) (by simp [xOld, b2i, c_1])) rfl
set_option maxHeartbeats 4000000 in
set_option maxRecDepth 100000 in
theorem kX0_isInShadow (l : Launch) (D : va_G) (ca : Nat → ClassId) (ad : Nat → Nat) (v : XS) (key : Int32) (hk : vp_in key 40) : CM l yX0_isInShadow cX0_isInShadow 2 (some .boolean) (KR 0 0) D ca (xw ad ca v) [.ref (ad 0), .int key] (some (.int (b2i (xSh v key)))) (xw ad ca v) := by
  refine CM.of (by decide) (Nat.le_of_ble_eq_true rfl) ?_
  intro p e s m below meth c A ls cx hml hr hlk hI hl
  have hl : lv_has ls 2 [(0, .ref (ad 0)), (1, .int key)] := hl
  refine lv_aload_n cx.1 cx.2.1 dX0_isInShadow_0 rfl (lv_at hl 0 rfl) ?_
  refine xg_2 cx hI dX0_isInShadow_1 ?_
  refine lv_iconst (v := 0) cx.1 cx.2.1 dX0_isInShadow_4 (by decide) ?_
  refine xa_cols cx hI (vp0 (by decide) (by decide)) dX0_isInShadow_5 ?_
  refine lv_iload_n cx.1 cx.2.1 dX0_isInShadow_6 rfl (lv_at hl 1 rfl) ?_
  refine xa_col (j := 0) cx hI (vp0 (by decide) (by decide)) rfl hk dX0_isInShadow_7 ?_
  refine lv_iconst (v := (-1)) cx.1 cx.2.1 dX0_isInShadow_8 (by decide) ?_
  refine lv_icmp_eq (tgt := 16) cx.1 cx.2.1 dX0_isInShadow_9 (by decide) (fun c_1 => ?_) (fun c_1 => ?_)
  · refine lv_iconst (v := 0) cx.1 cx.2.1 dX0_isInShadow_16 (by decide) ?_
    exact ke_z cx hr hlk hI (Nat.zero_le _) (Nat.zero_le _) dX0_isInShadow_17 rfl (congrArg (fun z => some (Value.int z)) (by simp [xSh, b2i, c_1])) rfl
  · refine lv_iconst (v := 1) cx.1 cx.2.1 dX0_isInShadow_12 (by decide) ?_
    refine lv_goto (tgt := 17) cx.1 cx.2.1 dX0_isInShadow_13 (by decide) ?_
    exact ke_z cx hr hlk hI (Nat.zero_le _) (Nat.zero_le _) dX0_isInShadow_17 rfl (congrArg (fun z => some (Value.int z)) (by simp [xSh, b2i, c_1])) rfl
set_option maxHeartbeats 4000000 in
set_option maxRecDepth 100000 in
theorem kX0_isSeen (l : Launch) (D : va_G) (ca : Nat → ClassId) (ad : Nat → Nat) (v : XS) (key : Int32) (hk : vp_in key 40) : CM l yX0_isSeen cX0_isSeen 2 (some .boolean) (KR 1 21) D ca (xw ad ca v) [.ref (ad 0), .int key] (some (.int (b2i (xSeen v key)))) (xw ad ca v) := by
  refine CM.of (by decide) (Nat.le_of_ble_eq_true rfl) ?_
  intro p e s m below meth c A ls cx hml hr hlk hI hl
  have hl : lv_has ls 2 [(0, .ref (ad 0)), (1, .int key)] := hl
  refine lv_aload_n cx.1 cx.2.1 dX0_isSeen_0 rfl (lv_at hl 0 rfl) ?_
  refine lv_iload_n cx.1 cx.2.1 dX0_isSeen_1 rfl (lv_at hl 1 rfl) ?_
  refine xc_i 1 cx (hl.1.trans hml.symm) (kX0_isInOld l D ca ad v key hk) hI wk_191 wk_188 wk_190 wq_4 ⟨rfl, by decide +kernel⟩ rfl ⟨rfl, rfl⟩ ⟨Nat.le_of_ble_eq_true rfl, Nat.le_of_ble_eq_true rfl⟩ (Nat.le_of_ble_eq_true rfl) dX0_isSeen_2 ⟨Nat.zero_le _, Nat.zero_le _⟩ rfl (fun H locs hI => ?_)
  refine kb_eq (tgt := 28) cx dX0_isSeen_5 (by decide) (fun c_1 => ?_) (fun c_1 => ?_)
  · refine lv_iconst (v := 0) cx.1 cx.2.1 dX0_isSeen_28 (by decide) ?_
    exact ke_z cx hr hlk hI (Nat.zero_le _) (Nat.zero_le _) dX0_isSeen_29 rfl (congrArg (fun z => some (Value.int z)) (by simp [xSeen, b2i, c_1])) rfl
  · refine lv_aload_n cx.1 cx.2.1 dX0_isSeen_8 rfl (lv_at hl 0 rfl) ?_
    refine xg_6 cx hI dX0_isSeen_9 ?_
    refine lv_iconst (v := 2) cx.1 cx.2.1 dX0_isSeen_12 (by decide) ?_
    refine lv_icmp_ne (tgt := 24) cx.1 cx.2.1 dX0_isSeen_13 (by decide) (fun c_2 => ?_) (fun c_2 => ?_)
    · refine lv_iconst (v := 1) cx.1 cx.2.1 dX0_isSeen_24 (by decide) ?_
      refine lv_goto (tgt := 29) cx.1 cx.2.1 dX0_isSeen_25 (by decide) ?_
      exact ke_z cx hr hlk hI (Nat.zero_le _) (Nat.zero_le _) dX0_isSeen_29 rfl (congrArg (fun z => some (Value.int z)) (by simp [xSeen, b2i, c_1, c_2])) rfl
    · refine lv_aload_n cx.1 cx.2.1 dX0_isSeen_16 rfl (lv_at hl 0 rfl) ?_
      refine lv_iload_n cx.1 cx.2.1 dX0_isSeen_17 rfl (lv_at hl 1 rfl) ?_
      refine xc_i 1 cx (hl.1.trans hml.symm) (kX0_isInShadow l D ca ad v key hk) hI wk_175 wk_172 wk_174 wq_1 ⟨rfl, by decide +kernel⟩ rfl ⟨rfl, rfl⟩ ⟨Nat.le_of_ble_eq_true rfl, Nat.le_of_ble_eq_true rfl⟩ (Nat.le_of_ble_eq_true rfl) dX0_isSeen_18 ⟨Nat.zero_le _, Nat.zero_le _⟩ rfl (fun H locs hI => ?_)
      refine kb_eq (tgt := 28) cx dX0_isSeen_21 (by decide) (fun c_3 => ?_) (fun c_3 => ?_)
      · refine lv_iconst (v := 0) cx.1 cx.2.1 dX0_isSeen_28 (by decide) ?_
        exact ke_z cx hr hlk hI (Nat.zero_le _) (Nat.zero_le _) dX0_isSeen_29 rfl (congrArg (fun z => some (Value.int z)) (by simp [xSeen, b2i, c_1, c_2, c_3])) rfl
      · refine lv_iconst (v := 1) cx.1 cx.2.1 dX0_isSeen_24 (by decide) ?_
        refine lv_goto (tgt := 29) cx.1 cx.2.1 dX0_isSeen_25 (by decide) ?_
        exact ke_z cx hr hlk hI (Nat.zero_le _) (Nat.zero_le _) dX0_isSeen_29 rfl (congrArg (fun z => some (Value.int z)) (by simp [xSeen, b2i, c_1, c_2, c_3])) rfl
set_option maxHeartbeats 4000000 in
set_option maxRecDepth 100000 in
theorem kX0_rowAsNumber (l : Launch) (D : va_G) (ca : Nat → ClassId) (ad : Nat → Nat) (v : XS) (key : Int32) (hk : vp_in key 40) : CM l yX0_rowAsNumber cX0_rowAsNumber 2 (some .int) (KR 0 0) D ca (xw ad ca v) [.ref (ad 0), .int key] (some (.int (xRow v key))) (xw ad ca v) := by
  refine CM.of (by decide) (Nat.le_of_ble_eq_true rfl) ?_
  intro p e s m below meth c A ls cx hml hr hlk hI hl
  have hl : lv_has ls 2 [(0, .ref (ad 0)), (1, .int key)] := hl
  refine lv_sipush (v := 1000) cx.1 cx.2.1 dX0_rowAsNumber_0 (by decide) ?_
  refine lv_aload_n cx.1 cx.2.1 dX0_rowAsNumber_3 rfl (lv_at hl 0 rfl) ?_
  refine xg_0 cx hI dX0_rowAsNumber_4 ?_
  refine lv_iload_n cx.1 cx.2.1 dX0_rowAsNumber_7 rfl (lv_at hl 1 rfl) ?_
  refine xa_A cx hI hk dX0_rowAsNumber_8 ?_
  refine lv_imul cx.1 cx.2.1 dX0_rowAsNumber_9 ?_
  refine lv_aload_n cx.1 cx.2.1 dX0_rowAsNumber_10 rfl (lv_at hl 0 rfl) ?_
  refine xg_1 cx hI dX0_rowAsNumber_11 ?_
  refine lv_iload_n cx.1 cx.2.1 dX0_rowAsNumber_14 rfl (lv_at hl 1 rfl) ?_
  refine xa_B cx hI hk dX0_rowAsNumber_15 ?_
  refine lv_iadd cx.1 cx.2.1 dX0_rowAsNumber_16 ?_
  exact ke_i cx hr hlk hI (Nat.zero_le _) (Nat.zero_le _) dX0_rowAsNumber_17 (congrArg (fun z => some (Value.int z)) (by simp [xRow])) rfl
set_option maxHeartbeats 4000000 in
set_option maxRecDepth 100000 in
theorem kX0_putRow (l : Launch) (D : va_G) (ca : Nat → ClassId) (ad : Nat → Nat) (v : XS) (key a b : Int32) (hk : vp_in key 40) : CM l yX0_putRow cX0_putRow 4 none (KR 0 0) D ca (xw ad ca v) [.ref (ad 0), .int key, .int a, .int b] none (xw ad ca (xPut v key a b)) := by
  refine CM.of (by decide) (Nat.le_of_ble_eq_true rfl) ?_
  intro p e s m below meth c A ls cx hml hr hlk hI hl
  have hl : lv_has ls 4 [(0, .ref (ad 0)), (1, .int key), (2, .int a), (3, .int b)] := hl
  refine lv_aload_n cx.1 cx.2.1 dX0_putRow_0 rfl (lv_at hl 0 rfl) ?_
  refine xg_0 cx hI dX0_putRow_1 ?_
  refine lv_iload_n cx.1 cx.2.1 dX0_putRow_4 rfl (lv_at hl 1 rfl) ?_
  refine lv_iload_n cx.1 cx.2.1 dX0_putRow_5 rfl (lv_at hl 2 rfl) ?_
  refine xs_A cx hI hk dX0_putRow_6 (fun H locs hI => ?_)
  refine lv_aload_n cx.1 cx.2.1 dX0_putRow_7 rfl (lv_at hl 0 rfl) ?_
  refine xg_1 cx hI dX0_putRow_8 ?_
  refine lv_iload_n cx.1 cx.2.1 dX0_putRow_11 rfl (lv_at hl 1 rfl) ?_
  refine lv_iload_n cx.1 cx.2.1 dX0_putRow_12 rfl (lv_at hl 3 rfl) ?_
  refine xs_B cx hI hk dX0_putRow_13 (fun H locs hI => ?_)
  exact ke_v cx hr hlk hI (Nat.zero_le _) (Nat.zero_le _) dX0_putRow_14 rfl (congrArg (xw ad ca) (by simp [xPut]))
set_option maxHeartbeats 4000000 in
set_option maxRecDepth 100000 in
theorem kX0_removeRow (l : Launch) (D : va_G) (ca : Nat → ClassId) (ad : Nat → Nat) (v : XS) (key : Int32) (hk : vp_in key 40) : CM l yX0_removeRow cX0_removeRow 2 none (KR 1 23) D ca (xw ad ca v) [.ref (ad 0), .int key] none (xw ad ca (xPut v key (-1) (-1))) := by
  refine CM.of (by decide) (Nat.le_of_ble_eq_true rfl) ?_
  intro p e s m below meth c A ls cx hml hr hlk hI hl
  have hl : lv_has ls 2 [(0, .ref (ad 0)), (1, .int key)] := hl
  refine lv_aload_n cx.1 cx.2.1 dX0_removeRow_0 rfl (lv_at hl 0 rfl) ?_
  refine lv_iload_n cx.1 cx.2.1 dX0_removeRow_1 rfl (lv_at hl 1 rfl) ?_
  refine lv_iconst (v := (-1)) cx.1 cx.2.1 dX0_removeRow_2 (by decide) ?_
  refine lv_iconst (v := (-1)) cx.1 cx.2.1 dX0_removeRow_3 (by decide) ?_
  refine xc_v 3 cx (hl.1.trans hml.symm) (kX0_putRow l D ca ad v key (-1) (-1) hk) hI wk_268 wk_265 wk_267 wq_11 ⟨rfl, by decide +kernel⟩ rfl ⟨rfl, rfl⟩ ⟨Nat.le_of_ble_eq_true rfl, Nat.le_of_ble_eq_true rfl⟩ (Nat.le_of_ble_eq_true rfl) dX0_removeRow_4 ⟨Nat.zero_le _, Nat.zero_le _⟩ rfl (fun H locs hI => ?_)
  exact ke_v cx hr hlk hI (Nat.zero_le _) (Nat.zero_le _) dX0_removeRow_7 rfl rfl
set_option maxHeartbeats 4000000 in
set_option maxRecDepth 100000 in
theorem kX0_digits (l : Launch) (D : va_G) (ca : Nat → ClassId) (b : Int32) : CM l yX0_digits cX0_digits 1 (some .int) (KR 0 0) D ca [] [.int b] (some (.int (xDig b))) [] := by
  refine CM.of (by decide) (Nat.le_of_ble_eq_true rfl) ?_
  intro p e s m below meth c A ls cx hml hr hlk hI hl
  have hl : lv_has ls 1 [(0, .int b)] := hl
  refine lv_iload_n cx.1 cx.2.1 dX0_digits_0 rfl (lv_at hl 0 rfl) ?_
  refine lv_bipush (v := 10) cx.1 cx.2.1 dX0_digits_1 (by decide) ?_
  refine lv_icmp_ge (tgt := 8) cx.1 cx.2.1 dX0_digits_3 (by decide) (fun c_1 => ?_) (fun c_1 => ?_)
  · refine lv_iload_n cx.1 cx.2.1 dX0_digits_8 rfl (lv_at hl 0 rfl) ?_
    refine lv_bipush (v := 100) cx.1 cx.2.1 dX0_digits_9 (by decide) ?_
    refine lv_icmp_ge (tgt := 18) cx.1 cx.2.1 dX0_digits_11 (by decide) (fun c_2 => ?_) (fun c_2 => ?_)
    · refine lv_iconst (v := 3) cx.1 cx.2.1 dX0_digits_18 (by decide) ?_
      exact ke_i cx hr hlk hI (Nat.zero_le _) (Nat.zero_le _) dX0_digits_19 (congrArg (fun z => some (Value.int z)) (by simp [xDig, c_1, c_2])) rfl
    · refine lv_iconst (v := 2) cx.1 cx.2.1 dX0_digits_14 (by decide) ?_
      refine lv_goto (tgt := 19) cx.1 cx.2.1 dX0_digits_15 (by decide) ?_
      exact ke_i cx hr hlk hI (Nat.zero_le _) (Nat.zero_le _) dX0_digits_19 (congrArg (fun z => some (Value.int z)) (by simp [xDig, c_1, c_2])) rfl
  · refine lv_iconst (v := 1) cx.1 cx.2.1 dX0_digits_6 (by decide) ?_
    exact ke_i cx hr hlk hI (Nat.zero_le _) (Nat.zero_le _) dX0_digits_7 (congrArg (fun z => some (Value.int z)) (by simp [xDig, c_1])) rfl
set_option maxHeartbeats 4000000 in
set_option maxRecDepth 100000 in
theorem kX0_alteredMiddle (l : Launch) (D : va_G) (ca : Nat → ClassId) (ad : Nat → Nat) (v : XS) (a b : Int32) : CM l yX0_alteredMiddle cX0_alteredMiddle 3 (some .int) (KR 0 0) D ca (xw ad ca v) [.ref (ad 0), .int a, .int b] (some (.int (xMid v a b))) (xw ad ca v) := by
  refine CM.of (by decide) (Nat.le_of_ble_eq_true rfl) ?_
  intro p e s m below meth c A ls cx hml hr hlk hI hl
  have hl : lv_has ls 3 [(0, .ref (ad 0)), (1, .int a), (2, .int b)] := hl
  refine lv_aload_n cx.1 cx.2.1 dX0_alteredMiddle_0 rfl (lv_at hl 0 rfl) ?_
  refine xg_8 cx hI dX0_alteredMiddle_1 ?_
  rcases Decidable.em (xt v = 0) with c_1 | c_1
  · refine lv_lookup (off := 28) (tgt := 32) cx.1 cx.2.1 dX0_alteredMiddle_4 (by decide) ( (by rw [c_1]; decide)) (by decide) ?_
    refine lv_iload_n cx.1 cx.2.1 dX0_alteredMiddle_32 rfl (lv_at hl 1 rfl) ?_
    refine lv_bipush (v := 100) cx.1 cx.2.1 dX0_alteredMiddle_33 (by decide) ?_
    refine lv_irem cx.1 cx.2.1 dX0_alteredMiddle_35 (by decide) ?_
    exact ke_i cx hr hlk hI (Nat.zero_le _) (Nat.zero_le _) dX0_alteredMiddle_36 (congrArg (fun z => some (Value.int z)) (by simp [xMid, c_1])) rfl
  ·
    rcases Decidable.em (xt v = 1) with c_2 | c_2
    · refine lv_lookup (off := 33) (tgt := 37) cx.1 cx.2.1 dX0_alteredMiddle_4 (by decide) ((lv_osw c_1 (by decide)).trans <| (by rw [c_2]; decide)) (by decide) ?_
      refine lv_iload_n cx.1 cx.2.1 dX0_alteredMiddle_37 rfl (lv_at hl 2 rfl) ?_
      exact ke_i cx hr hlk hI (Nat.zero_le _) (Nat.zero_le _) dX0_alteredMiddle_38 (congrArg (fun z => some (Value.int z)) (by simp [xMid, c_2, c_1])) rfl
    ·
      refine lv_lookup (off := 35) (tgt := 39) cx.1 cx.2.1 dX0_alteredMiddle_4 (by decide) ((lv_osw c_1 (by decide)).trans <| (lv_osw c_2 (by decide)).trans <| rfl) (by decide) ?_
      refine lv_iload_n cx.1 cx.2.1 dX0_alteredMiddle_39 rfl (lv_at hl 2 rfl) ?_
      refine lv_aload_n cx.1 cx.2.1 dX0_alteredMiddle_40 rfl (lv_at hl 0 rfl) ?_
      refine xg_9 cx hI dX0_alteredMiddle_41 ?_
      refine lv_imul cx.1 cx.2.1 dX0_alteredMiddle_44 ?_
      exact ke_i cx hr hlk hI (Nat.zero_le _) (Nat.zero_le _) dX0_alteredMiddle_45 (congrArg (fun z => some (Value.int z)) (by simp [xMid, c_1, c_2])) rfl
set_option maxHeartbeats 4000000 in
set_option maxRecDepth 100000 in
theorem kX0_alteredLast (l : Launch) (D : va_G) (ca : Nat → ClassId) (ad : Nat → Nat) (v : XS) (b : Int32) : CM l yX0_alteredLast cX0_alteredLast 2 (some .int) (KR 1 20) D ca (xw ad ca v) [.ref (ad 0), .int b] (some (.int (xLast v b))) (xw ad ca v) := by
  refine CM.of (by decide) (Nat.le_of_ble_eq_true rfl) ?_
  intro p e s m below meth c A ls cx hml hr hlk hI hl
  have hl : lv_has ls 2 [(0, .ref (ad 0)), (1, .int b)] := hl
  refine lv_aload_n cx.1 cx.2.1 dX0_alteredLast_0 rfl (lv_at hl 0 rfl) ?_
  refine xg_8 cx hI dX0_alteredLast_1 ?_
  rcases Decidable.em (xt v = 0) with c_1 | c_1
  · refine lv_lookup (off := 28) (tgt := 32) cx.1 cx.2.1 dX0_alteredLast_4 (by decide) ( (by rw [c_1]; decide)) (by decide) ?_
    refine lv_iload_n cx.1 cx.2.1 dX0_alteredLast_32 rfl (lv_at hl 1 rfl) ?_
    exact ke_i cx hr hlk hI (Nat.zero_le _) (Nat.zero_le _) dX0_alteredLast_33 (congrArg (fun z => some (Value.int z)) (by simp [xLast, c_1])) rfl
  ·
    rcases Decidable.em (xt v = 1) with c_2 | c_2
    · refine lv_lookup (off := 30) (tgt := 34) cx.1 cx.2.1 dX0_alteredLast_4 (by decide) ((lv_osw c_1 (by decide)).trans <| (by rw [c_2]; decide)) (by decide) ?_
      refine lv_iconst (v := 0) cx.1 cx.2.1 dX0_alteredLast_34 (by decide) ?_
      exact ke_i cx hr hlk hI (Nat.zero_le _) (Nat.zero_le _) dX0_alteredLast_35 (congrArg (fun z => some (Value.int z)) (by simp [xLast, c_2, c_1])) rfl
    ·
      refine lv_lookup (off := 32) (tgt := 36) cx.1 cx.2.1 dX0_alteredLast_4 (by decide) ((lv_osw c_1 (by decide)).trans <| (lv_osw c_2 (by decide)).trans <| rfl) (by decide) ?_
      refine lv_iload_n cx.1 cx.2.1 dX0_alteredLast_36 rfl (lv_at hl 1 rfl) ?_
      refine ks_i 1 cx (hl.1.trans hml.symm) (kX0_digits l D ca b) hI wk_210 wk_208 wk_209 wk_1 ⟨by decide, by decide, by decide +kernel⟩ rfl ⟨rfl, rfl⟩ ⟨Nat.le_of_ble_eq_true rfl, Nat.le_of_ble_eq_true rfl⟩ (Nat.le_of_ble_eq_true rfl) dX0_alteredLast_37 ⟨Nat.zero_le _, Nat.zero_le _⟩ rfl (fun H locs hI => ?_)
      exact ke_i cx hr hlk hI (Nat.zero_le _) (Nat.zero_le _) dX0_alteredLast_40 (congrArg (fun z => some (Value.int z)) (by simp [xLast, c_1, c_2])) rfl
set_option maxHeartbeats 4000000 in
set_option maxRecDepth 100000 in
theorem kX0_alteredColumn (l : Launch) (D : va_G) (ca : Nat → ClassId) (ad : Nat → Nat) (v : XS) (a b col : Int32) : CM l yX0_alteredColumn cX0_alteredColumn 4 (some .int) (KR 2 41) D ca (xw ad ca v) [.ref (ad 0), .int a, .int b, .int col] (some (.int (xAlt v a b col))) (xw ad ca v) := by
  refine CM.of (by decide) (Nat.le_of_ble_eq_true rfl) ?_
  intro p e s m below meth c A ls cx hml hr hlk hI hl
  have hl : lv_has ls 4 [(0, .ref (ad 0)), (1, .int a), (2, .int b), (3, .int col)] := hl
  refine lv_iload_n cx.1 cx.2.1 dX0_alteredColumn_0 rfl (lv_at hl 3 rfl) ?_
  rcases Decidable.em (col = 0) with c_1 | c_1
  · refine lv_lookup (off := 27) (tgt := 28) cx.1 cx.2.1 dX0_alteredColumn_1 (by decide) ( (by rw [c_1]; decide)) (by decide) ?_
    refine lv_aload_n cx.1 cx.2.1 dX0_alteredColumn_28 rfl (lv_at hl 0 rfl) ?_
    refine xg_8 cx hI dX0_alteredColumn_29 ?_
    refine lv_if_ne (tgt := 42) cx.1 cx.2.1 dX0_alteredColumn_32 (by decide) (fun c_2 => ?_) (fun c_2 => ?_)
    · refine lv_iload_n cx.1 cx.2.1 dX0_alteredColumn_42 rfl (lv_at hl 1 rfl) ?_
      exact ke_i cx hr hlk hI (Nat.zero_le _) (Nat.zero_le _) dX0_alteredColumn_43 (congrArg (fun z => some (Value.int z)) (by simp [xAlt, c_1, c_2])) rfl
    · refine lv_iload_n cx.1 cx.2.1 dX0_alteredColumn_35 rfl (lv_at hl 1 rfl) ?_
      refine lv_bipush (v := 100) cx.1 cx.2.1 dX0_alteredColumn_36 (by decide) ?_
      refine lv_idiv cx.1 cx.2.1 dX0_alteredColumn_38 (by decide) ?_
      refine lv_goto (tgt := 43) cx.1 cx.2.1 dX0_alteredColumn_39 (by decide) ?_
      exact ke_i cx hr hlk hI (Nat.zero_le _) (Nat.zero_le _) dX0_alteredColumn_43 (congrArg (fun z => some (Value.int z)) (by simp [xAlt, c_1, c_2])) rfl
  ·
    rcases Decidable.em (col = 1) with c_3 | c_3
    · refine lv_lookup (off := 43) (tgt := 44) cx.1 cx.2.1 dX0_alteredColumn_1 (by decide) ((lv_osw c_1 (by decide)).trans <| (by rw [c_3]; decide)) (by decide) ?_
      refine lv_aload_n cx.1 cx.2.1 dX0_alteredColumn_44 rfl (lv_at hl 0 rfl) ?_
      refine lv_iload_n cx.1 cx.2.1 dX0_alteredColumn_45 rfl (lv_at hl 1 rfl) ?_
      refine lv_iload_n cx.1 cx.2.1 dX0_alteredColumn_46 rfl (lv_at hl 2 rfl) ?_
      refine xc_i 2 cx (hl.1.trans hml.symm) (kX0_alteredMiddle l D ca ad v a b) hI wk_203 wk_200 wk_202 wq_7 ⟨rfl, by decide +kernel⟩ rfl ⟨rfl, rfl⟩ ⟨Nat.le_of_ble_eq_true rfl, Nat.le_of_ble_eq_true rfl⟩ (Nat.le_of_ble_eq_true rfl) dX0_alteredColumn_47 ⟨Nat.zero_le _, Nat.zero_le _⟩ rfl (fun H locs hI => ?_)
      exact ke_i cx hr hlk hI (Nat.zero_le _) (Nat.zero_le _) dX0_alteredColumn_50 (congrArg (fun z => some (Value.int z)) (by simp [xAlt, c_3, c_1])) rfl
    ·
      refine lv_lookup (off := 50) (tgt := 51) cx.1 cx.2.1 dX0_alteredColumn_1 (by decide) ((lv_osw c_1 (by decide)).trans <| (lv_osw c_3 (by decide)).trans <| rfl) (by decide) ?_
      refine lv_aload_n cx.1 cx.2.1 dX0_alteredColumn_51 rfl (lv_at hl 0 rfl) ?_
      refine lv_iload_n cx.1 cx.2.1 dX0_alteredColumn_52 rfl (lv_at hl 2 rfl) ?_
      refine xc_i 1 cx (hl.1.trans hml.symm) (kX0_alteredLast l D ca ad v b) hI wk_207 wk_204 wk_206 wq_8 ⟨rfl, by decide +kernel⟩ rfl ⟨rfl, rfl⟩ ⟨Nat.le_of_ble_eq_true rfl, Nat.le_of_ble_eq_true rfl⟩ (Nat.le_of_ble_eq_true rfl) dX0_alteredColumn_53 ⟨Nat.zero_le _, Nat.zero_le _⟩ rfl (fun H locs hI => ?_)
      exact ke_i cx hr hlk hI (Nat.zero_le _) (Nat.zero_le _) dX0_alteredColumn_56 (congrArg (fun z => some (Value.int z)) (by simp [xAlt, c_1, c_3])) rfl
set_option maxHeartbeats 4000000 in
set_option maxRecDepth 100000 in
theorem kX0_broughtColumn (l : Launch) (D : va_G) (ca : Nat → ClassId) (ad : Nat → Nat) (v : XS) (key col : Int32) (hk : vp_in key 40) : CM l yX0_broughtColumn cX0_broughtColumn 3 (some .int) (KR 3 64) D ca (xw ad ca v) [.ref (ad 0), .int key, .int col] (some (.int (xBro v key col))) (xw ad ca v) := by
  refine CM.of (by decide) (Nat.le_of_ble_eq_true rfl) ?_
  intro p e s m below meth c A ls cx hml hr hlk hI hl
  have hl : lv_has ls 3 [(0, .ref (ad 0)), (1, .int key), (2, .int col)] := hl
  refine lv_aload_n cx.1 cx.2.1 dX0_broughtColumn_0 rfl (lv_at hl 0 rfl) ?_
  refine lv_iload_n cx.1 cx.2.1 dX0_broughtColumn_1 rfl (lv_at hl 1 rfl) ?_
  refine xc_i 1 cx (hl.1.trans hml.symm) (kX0_isInOld l D ca ad v key hk) hI wk_191 wk_188 wk_190 wq_4 ⟨rfl, by decide +kernel⟩ rfl ⟨rfl, rfl⟩ ⟨Nat.le_of_ble_eq_true rfl, Nat.le_of_ble_eq_true rfl⟩ (Nat.le_of_ble_eq_true rfl) dX0_broughtColumn_2 ⟨Nat.zero_le _, Nat.zero_le _⟩ rfl (fun H locs hI => ?_)
  refine kb_eq (tgt := 21) cx dX0_broughtColumn_5 (by decide) (fun c_1 => ?_) (fun c_1 => ?_)
  · refine lv_iconst (v := (-1)) cx.1 cx.2.1 dX0_broughtColumn_21 (by decide) ?_
    exact ke_i cx hr hlk hI (Nat.zero_le _) (Nat.zero_le _) dX0_broughtColumn_22 (congrArg (fun z => some (Value.int z)) (by simp [xBro, c_1])) rfl
  · refine lv_aload_n cx.1 cx.2.1 dX0_broughtColumn_8 rfl (lv_at hl 0 rfl) ?_
    refine lv_aload_n cx.1 cx.2.1 dX0_broughtColumn_9 rfl (lv_at hl 0 rfl) ?_
    refine xg_1 cx hI dX0_broughtColumn_10 ?_
    refine lv_iload_n cx.1 cx.2.1 dX0_broughtColumn_13 rfl (lv_at hl 1 rfl) ?_
    refine xa_B cx hI hk dX0_broughtColumn_14 ?_
    refine xc_i 1 cx (hl.1.trans hml.symm) (kX0_fits l D ca ad v (xB v key.toNatClampNeg)) hI wk_195 wk_192 wk_194 wq_5 ⟨rfl, by decide +kernel⟩ rfl ⟨rfl, rfl⟩ ⟨Nat.le_of_ble_eq_true rfl, Nat.le_of_ble_eq_true rfl⟩ (Nat.le_of_ble_eq_true rfl) dX0_broughtColumn_15 ⟨Nat.zero_le _, Nat.zero_le _⟩ rfl (fun H locs hI => ?_)
    refine kb_ne (tgt := 23) cx dX0_broughtColumn_18 (by decide) (fun c_2 => ?_) (fun c_2 => ?_)
    · refine lv_aload_n cx.1 cx.2.1 dX0_broughtColumn_23 rfl (lv_at hl 0 rfl) ?_
      refine lv_aload_n cx.1 cx.2.1 dX0_broughtColumn_24 rfl (lv_at hl 0 rfl) ?_
      refine xg_0 cx hI dX0_broughtColumn_25 ?_
      refine lv_iload_n cx.1 cx.2.1 dX0_broughtColumn_28 rfl (lv_at hl 1 rfl) ?_
      refine xa_A cx hI hk dX0_broughtColumn_29 ?_
      refine lv_aload_n cx.1 cx.2.1 dX0_broughtColumn_30 rfl (lv_at hl 0 rfl) ?_
      refine xg_1 cx hI dX0_broughtColumn_31 ?_
      refine lv_iload_n cx.1 cx.2.1 dX0_broughtColumn_34 rfl (lv_at hl 1 rfl) ?_
      refine xa_B cx hI hk dX0_broughtColumn_35 ?_
      refine lv_iload_n cx.1 cx.2.1 dX0_broughtColumn_36 rfl (lv_at hl 2 rfl) ?_
      refine xc_i 3 cx (hl.1.trans hml.symm) (kX0_alteredColumn l D ca ad v (xA v key.toNatClampNeg) (xB v key.toNatClampNeg) col) hI wk_199 wk_196 wk_198 wq_6 ⟨rfl, by decide +kernel⟩ rfl ⟨rfl, rfl⟩ ⟨Nat.le_of_ble_eq_true rfl, Nat.le_of_ble_eq_true rfl⟩ (Nat.le_of_ble_eq_true rfl) dX0_broughtColumn_37 ⟨Nat.zero_le _, Nat.zero_le _⟩ rfl (fun H locs hI => ?_)
      exact ke_i cx hr hlk hI (Nat.zero_le _) (Nat.zero_le _) dX0_broughtColumn_40 (congrArg (fun z => some (Value.int z)) (by simp [xBro, c_1, c_2])) rfl
    · refine lv_iconst (v := (-1)) cx.1 cx.2.1 dX0_broughtColumn_21 (by decide) ?_
      exact ke_i cx hr hlk hI (Nat.zero_le _) (Nat.zero_le _) dX0_broughtColumn_22 (congrArg (fun z => some (Value.int z)) (by simp [xBro, c_1, c_2])) rfl
set_option maxHeartbeats 4000000 in
set_option maxRecDepth 100000 in
theorem kX0_noteKey (l : Launch) (D : va_G) (ca : Nat → ClassId) (ad : Nat → Nat) (v : XS) (key : Int32) (h0 : ¬ xc v < 0) : CM l yX0_noteKey cX0_noteKey 2 none (KR 0 0) D ca (xw ad ca v) [.ref (ad 0), .int key] none (xw ad ca (xNote v key)) := by
  refine CM.of (by decide) (Nat.le_of_ble_eq_true rfl) ?_
  intro p e s m below meth c A ls cx hml hr hlk hI hl
  have hl : lv_has ls 2 [(0, .ref (ad 0)), (1, .int key)] := hl
  refine lv_aload_n cx.1 cx.2.1 dX0_noteKey_0 rfl (lv_at hl 0 rfl) ?_
  refine xg_5 cx hI dX0_noteKey_1 ?_
  refine lv_sipush (v := 1024) cx.1 cx.2.1 dX0_noteKey_4 (by decide) ?_
  refine lv_icmp_ge (tgt := 30) cx.1 cx.2.1 dX0_noteKey_7 (by decide) (fun c_1 => ?_) (fun c_1 => ?_)
  · exact ke_v cx hr hlk hI (Nat.zero_le _) (Nat.zero_le _) dX0_noteKey_30 rfl (congrArg (xw ad ca) (by simp [xNote, c_1]))
  · refine lv_aload_n cx.1 cx.2.1 dX0_noteKey_10 rfl (lv_at hl 0 rfl) ?_
    refine xg_4 cx hI dX0_noteKey_11 ?_
    refine lv_aload_n cx.1 cx.2.1 dX0_noteKey_14 rfl (lv_at hl 0 rfl) ?_
    refine xg_5 cx hI dX0_noteKey_15 ?_
    refine lv_iload_n cx.1 cx.2.1 dX0_noteKey_18 rfl (lv_at hl 1 rfl) ?_
    refine xs_N cx hI (kin_of h0 c_1) dX0_noteKey_19 (fun H locs hI => ?_)
    refine lv_aload_n cx.1 cx.2.1 dX0_noteKey_20 rfl (lv_at hl 0 rfl) ?_
    refine lv_dup cx.1 cx.2.1 dX0_noteKey_21 rfl ?_
    refine xg_5 cx hI dX0_noteKey_22 ?_
    refine lv_iconst (v := 1) cx.1 cx.2.1 dX0_noteKey_25 (by decide) ?_
    refine lv_iadd cx.1 cx.2.1 dX0_noteKey_26 ?_
    refine xp_5 cx hI dX0_noteKey_27 (fun H locs hI => ?_)
    exact ke_v cx hr hlk hI (Nat.zero_le _) (Nat.zero_le _) dX0_noteKey_30 rfl (congrArg (xw ad ca) (by simp [xNote, c_1]))
end
section
set_option maxHeartbeats 4000000 in
set_option maxRecDepth 100000 in
theorem kX0_bring (l : Launch) (D : va_G) (ca : Nat → ClassId) (ad : Nat → Nat) (v : XS) (key : Int32) (hk : vp_in key 40) : CM l yX0_bring cX0_bring 3 none (KR 4 86) D ca (xw ad ca v) [.ref (ad 0), .int key] none (xw ad ca (xBring v key)) := by
  refine CM.of (by decide) (Nat.le_of_ble_eq_true rfl) ?_
  intro p e s m below meth c A ls cx hml hr hlk hI hl
  have hl : lv_has ls 3 [(0, .ref (ad 0)), (1, .int key)] := hl
  refine lv_iconst (v := 0) cx.1 cx.2.1 dX0_bring_0 (by decide) ?_
  refine lv_istore_n (lv' := [(2, .int 0), (0, .ref (ad 0)), (1, .int key)]) cx.1 cx.2.1 dX0_bring_1 rfl hl (by decide) rfl (fun ls hl => ?_)
  refine lv_iload_n cx.1 cx.2.1 dX0_bring_2 rfl (lv_at hl 0 rfl) ?_
  refine lv_iconst (v := 3) cx.1 cx.2.1 dX0_bring_3 (by decide) ?_
  refine lv_icmp_ge (tgt := 27) cx.1 cx.2.1 dX0_bring_4 (by decide) (fun h9 => absurd h9 (by decide)) (fun _ => ?_)
  refine lv_aload_n cx.1 cx.2.1 dX0_bring_7 rfl (lv_at hl 1 rfl) ?_
  refine xg_2 cx hI dX0_bring_8 ?_
  refine lv_iload_n cx.1 cx.2.1 dX0_bring_11 rfl (lv_at hl 0 rfl) ?_
  refine xa_cols cx hI (vp0 (by decide) (by decide)) dX0_bring_12 ?_
  refine lv_iload_n cx.1 cx.2.1 dX0_bring_13 rfl (lv_at hl 2 rfl) ?_
  refine lv_aload_n cx.1 cx.2.1 dX0_bring_14 rfl (lv_at hl 1 rfl) ?_
  refine lv_iload_n cx.1 cx.2.1 dX0_bring_15 rfl (lv_at hl 2 rfl) ?_
  refine lv_iload_n cx.1 cx.2.1 dX0_bring_16 rfl (lv_at hl 0 rfl) ?_
  refine xc_i 2 cx (hl.1.trans hml.symm) (kX0_broughtColumn l D ca ad v key 0 hk) hI wk_187 wk_184 wk_186 wq_3 ⟨rfl, by decide +kernel⟩ rfl ⟨rfl, rfl⟩ ⟨Nat.le_of_ble_eq_true rfl, Nat.le_of_ble_eq_true rfl⟩ (Nat.le_of_ble_eq_true rfl) dX0_bring_17 ⟨Nat.zero_le _, Nat.zero_le _⟩ rfl (fun H locs hI => ?_)
  refine xs_col (j := 0) cx hI (vp0 (by decide) (by decide)) rfl hk dX0_bring_20 (fun H locs hI => ?_)
  refine lv_iinc (v := 1) (lv' := [(2, .int 1), (0, .ref (ad 0)), (1, .int key)]) cx.1 cx.2.1 dX0_bring_21 hl (k := 0) rfl (by decide) (by decide) rfl (fun ls hl => ?_)
  refine lv_goto (tgt := 2) cx.1 cx.2.1 dX0_bring_24 (by decide) ?_
  refine lv_iload_n cx.1 cx.2.1 dX0_bring_2 rfl (lv_at hl 0 rfl) ?_
  refine lv_iconst (v := 3) cx.1 cx.2.1 dX0_bring_3 (by decide) ?_
  refine lv_icmp_ge (tgt := 27) cx.1 cx.2.1 dX0_bring_4 (by decide) (fun h9 => absurd h9 (by decide)) (fun _ => ?_)
  refine lv_aload_n cx.1 cx.2.1 dX0_bring_7 rfl (lv_at hl 1 rfl) ?_
  refine xg_2 cx hI dX0_bring_8 ?_
  refine lv_iload_n cx.1 cx.2.1 dX0_bring_11 rfl (lv_at hl 0 rfl) ?_
  refine xa_cols cx hI (vp1 (by decide) (by decide)) dX0_bring_12 ?_
  refine lv_iload_n cx.1 cx.2.1 dX0_bring_13 rfl (lv_at hl 2 rfl) ?_
  refine lv_aload_n cx.1 cx.2.1 dX0_bring_14 rfl (lv_at hl 1 rfl) ?_
  refine lv_iload_n cx.1 cx.2.1 dX0_bring_15 rfl (lv_at hl 2 rfl) ?_
  refine lv_iload_n cx.1 cx.2.1 dX0_bring_16 rfl (lv_at hl 0 rfl) ?_
  refine xc_i 2 cx (hl.1.trans hml.symm) (kX0_broughtColumn l D ca ad (xUC v 0 (upd (xC v 0) key.toNatClampNeg (xBro v key 0))) key 1 hk) hI wk_187 wk_184 wk_186 wq_3 ⟨rfl, by decide +kernel⟩ rfl ⟨rfl, rfl⟩ ⟨Nat.le_of_ble_eq_true rfl, Nat.le_of_ble_eq_true rfl⟩ (Nat.le_of_ble_eq_true rfl) dX0_bring_17 ⟨Nat.zero_le _, Nat.zero_le _⟩ rfl (fun H locs hI => ?_)
  refine xs_col (j := 1) cx hI (vp1 (by decide) (by decide)) rfl hk dX0_bring_20 (fun H locs hI => ?_)
  refine lv_iinc (v := 2) (lv' := [(2, .int 2), (0, .ref (ad 0)), (1, .int key)]) cx.1 cx.2.1 dX0_bring_21 hl (k := 0) rfl (by decide) (by decide) rfl (fun ls hl => ?_)
  refine lv_goto (tgt := 2) cx.1 cx.2.1 dX0_bring_24 (by decide) ?_
  refine lv_iload_n cx.1 cx.2.1 dX0_bring_2 rfl (lv_at hl 0 rfl) ?_
  refine lv_iconst (v := 3) cx.1 cx.2.1 dX0_bring_3 (by decide) ?_
  refine lv_icmp_ge (tgt := 27) cx.1 cx.2.1 dX0_bring_4 (by decide) (fun h9 => absurd h9 (by decide)) (fun _ => ?_)
  refine lv_aload_n cx.1 cx.2.1 dX0_bring_7 rfl (lv_at hl 1 rfl) ?_
  refine xg_2 cx hI dX0_bring_8 ?_
  refine lv_iload_n cx.1 cx.2.1 dX0_bring_11 rfl (lv_at hl 0 rfl) ?_
  refine xa_cols cx hI (vp2 (by decide) (by decide)) dX0_bring_12 ?_
  refine lv_iload_n cx.1 cx.2.1 dX0_bring_13 rfl (lv_at hl 2 rfl) ?_
  refine lv_aload_n cx.1 cx.2.1 dX0_bring_14 rfl (lv_at hl 1 rfl) ?_
  refine lv_iload_n cx.1 cx.2.1 dX0_bring_15 rfl (lv_at hl 2 rfl) ?_
  refine lv_iload_n cx.1 cx.2.1 dX0_bring_16 rfl (lv_at hl 0 rfl) ?_
  refine xc_i 2 cx (hl.1.trans hml.symm) (kX0_broughtColumn l D ca ad (xUC (xUC v 0 (upd (xC v 0) key.toNatClampNeg (xBro v key 0))) 1 (upd (xC (xUC v 0 (upd (xC v 0) key.toNatClampNeg (xBro v key 0))) 1) key.toNatClampNeg (xBro (xUC v 0 (upd (xC v 0) key.toNatClampNeg (xBro v key 0))) key 1))) key 2 hk) hI wk_187 wk_184 wk_186 wq_3 ⟨rfl, by decide +kernel⟩ rfl ⟨rfl, rfl⟩ ⟨Nat.le_of_ble_eq_true rfl, Nat.le_of_ble_eq_true rfl⟩ (Nat.le_of_ble_eq_true rfl) dX0_bring_17 ⟨Nat.zero_le _, Nat.zero_le _⟩ rfl (fun H locs hI => ?_)
  refine xs_col (j := 2) cx hI (vp2 (by decide) (by decide)) rfl hk dX0_bring_20 (fun H locs hI => ?_)
  refine lv_iinc (v := 3) (lv' := [(2, .int 3), (0, .ref (ad 0)), (1, .int key)]) cx.1 cx.2.1 dX0_bring_21 hl (k := 0) rfl (by decide) (by decide) rfl (fun ls hl => ?_)
  refine lv_goto (tgt := 2) cx.1 cx.2.1 dX0_bring_24 (by decide) ?_
  refine lv_iload_n cx.1 cx.2.1 dX0_bring_2 rfl (lv_at hl 0 rfl) ?_
  refine lv_iconst (v := 3) cx.1 cx.2.1 dX0_bring_3 (by decide) ?_
  refine lv_icmp_ge (tgt := 27) cx.1 cx.2.1 dX0_bring_4 (by decide) (fun _ => ?_) (fun h9 => absurd (by decide : (3 : Int32) ≤ 3) h9)
  have hI : KI D A (xw ad ca (xBr3 v key)) s.heap _ _ := hI
  refine lv_aload_n cx.1 cx.2.1 dX0_bring_27 rfl (lv_at hl 1 rfl) ?_
  refine xg_3 cx hI dX0_bring_28 ?_
  refine lv_iload_n cx.1 cx.2.1 dX0_bring_31 rfl (lv_at hl 2 rfl) ?_
  refine lv_aload_n cx.1 cx.2.1 dX0_bring_32 rfl (lv_at hl 1 rfl) ?_
  refine lv_iload_n cx.1 cx.2.1 dX0_bring_33 rfl (lv_at hl 2 rfl) ?_
  refine xc_i 1 cx (hl.1.trans hml.symm) (kX0_isInOld l D ca ad (xBr3 v key) key hk) hI wk_191 wk_188 wk_190 wq_4 ⟨rfl, by decide +kernel⟩ rfl ⟨rfl, rfl⟩ ⟨Nat.le_of_ble_eq_true rfl, Nat.le_of_ble_eq_true rfl⟩ (Nat.le_of_ble_eq_true rfl) dX0_bring_34 ⟨Nat.zero_le _, Nat.zero_le _⟩ rfl (fun H locs hI => ?_)
  refine kb_eq (tgt := 57) cx dX0_bring_37 (by decide) (fun c_5 => ?_) (fun c_5 => ?_)
  · refine lv_iconst (v := 0) cx.1 cx.2.1 dX0_bring_57 (by decide) ?_
    refine xs_R cx hI hk dX0_bring_58 (fun H locs hI => ?_)
    exact ke_v cx hr hlk hI (Nat.zero_le _) (Nat.zero_le _) dX0_bring_59 rfl (congrArg (xw ad ca) (by simp [xBring, b2i, c_5]))
  · refine lv_aload_n cx.1 cx.2.1 dX0_bring_40 rfl (lv_at hl 1 rfl) ?_
    refine lv_aload_n cx.1 cx.2.1 dX0_bring_41 rfl (lv_at hl 1 rfl) ?_
    refine xg_1 cx hI dX0_bring_42 ?_
    refine lv_iload_n cx.1 cx.2.1 dX0_bring_45 rfl (lv_at hl 2 rfl) ?_
    refine xa_B cx hI hk dX0_bring_46 ?_
    refine xc_i 1 cx (hl.1.trans hml.symm) (kX0_fits l D ca ad (xBr3 v key) (xB (xBr3 v key) key.toNatClampNeg)) hI wk_195 wk_192 wk_194 wq_5 ⟨rfl, by decide +kernel⟩ rfl ⟨rfl, rfl⟩ ⟨Nat.le_of_ble_eq_true rfl, Nat.le_of_ble_eq_true rfl⟩ (Nat.le_of_ble_eq_true rfl) dX0_bring_47 ⟨Nat.zero_le _, Nat.zero_le _⟩ rfl (fun H locs hI => ?_)
    refine kb_ne (tgt := 57) cx dX0_bring_50 (by decide) (fun c_6 => ?_) (fun c_6 => ?_)
    · refine lv_iconst (v := 0) cx.1 cx.2.1 dX0_bring_57 (by decide) ?_
      refine xs_R cx hI hk dX0_bring_58 (fun H locs hI => ?_)
      exact ke_v cx hr hlk hI (Nat.zero_le _) (Nat.zero_le _) dX0_bring_59 rfl (congrArg (xw ad ca) (by simp [xBring, b2i, c_5, c_6]))
    · refine lv_iconst (v := 1) cx.1 cx.2.1 dX0_bring_53 (by decide) ?_
      refine lv_goto (tgt := 58) cx.1 cx.2.1 dX0_bring_54 (by decide) ?_
      refine xs_R cx hI hk dX0_bring_58 (fun H locs hI => ?_)
      exact ke_v cx hr hlk hI (Nat.zero_le _) (Nat.zero_le _) dX0_bring_59 rfl (congrArg (xw ad ca) (by simp [xBring, b2i, c_5, c_6]))
set_option maxHeartbeats 4000000 in
set_option maxRecDepth 100000 in
theorem kX0_isBehind (l : Launch) (D : va_G) (ca : Nat → ClassId) (ad : Nat → Nat) (v : XS) (key : Int32) (hk : vp_in key 40) : CM l yX0_isBehind cX0_isBehind 3 (some .boolean) (KR 4 86) D ca (xw ad ca v) [.ref (ad 0), .int key] (some (.int (b2i (xBeh v key)))) (xw ad ca v) := by
  refine CM.of (by decide) (Nat.le_of_ble_eq_true rfl) ?_
  intro p e s m below meth c A ls cx hml hr hlk hI hl
  have hl : lv_has ls 3 [(0, .ref (ad 0)), (1, .int key)] := hl
  refine lv_iconst (v := 0) cx.1 cx.2.1 dX0_isBehind_0 (by decide) ?_
  refine lv_istore_n (lv' := [(2, .int 0), (0, .ref (ad 0)), (1, .int key)]) cx.1 cx.2.1 dX0_isBehind_1 rfl hl (by decide) rfl (fun ls hl => ?_)
  refine lv_iload_n cx.1 cx.2.1 dX0_isBehind_2 rfl (lv_at hl 0 rfl) ?_
  refine lv_iconst (v := 3) cx.1 cx.2.1 dX0_isBehind_3 (by decide) ?_
  refine lv_icmp_ge (tgt := 32) cx.1 cx.2.1 dX0_isBehind_4 (by decide) (fun h9 => absurd h9 (by decide)) (fun _ => ?_)
  refine lv_aload_n cx.1 cx.2.1 dX0_isBehind_7 rfl (lv_at hl 1 rfl) ?_
  refine xg_2 cx hI dX0_isBehind_8 ?_
  refine lv_iload_n cx.1 cx.2.1 dX0_isBehind_11 rfl (lv_at hl 0 rfl) ?_
  refine xa_cols cx hI (vp0 (by decide) (by decide)) dX0_isBehind_12 ?_
  refine lv_iload_n cx.1 cx.2.1 dX0_isBehind_13 rfl (lv_at hl 2 rfl) ?_
  refine xa_col (j := 0) cx hI (vp0 (by decide) (by decide)) rfl hk dX0_isBehind_14 ?_
  refine lv_aload_n cx.1 cx.2.1 dX0_isBehind_15 rfl (lv_at hl 1 rfl) ?_
  refine lv_iload_n cx.1 cx.2.1 dX0_isBehind_16 rfl (lv_at hl 2 rfl) ?_
  refine lv_iload_n cx.1 cx.2.1 dX0_isBehind_17 rfl (lv_at hl 0 rfl) ?_
  refine xc_i 2 cx (hl.1.trans hml.symm) (kX0_broughtColumn l D ca ad v key 0 hk) hI wk_187 wk_184 wk_186 wq_3 ⟨rfl, by decide +kernel⟩ rfl ⟨rfl, rfl⟩ ⟨Nat.le_of_ble_eq_true rfl, Nat.le_of_ble_eq_true rfl⟩ (Nat.le_of_ble_eq_true rfl) dX0_isBehind_18 ⟨Nat.zero_le _, Nat.zero_le _⟩ rfl (fun H locs hI => ?_)
  refine lv_icmp_eq (tgt := 26) cx.1 cx.2.1 dX0_isBehind_21 (by decide) (fun c_2 => ?_) (fun c_2 => ?_)
  · refine lv_iinc (v := 1) (lv' := [(2, .int 1), (0, .ref (ad 0)), (1, .int key)]) cx.1 cx.2.1 dX0_isBehind_26 hl (k := 0) rfl (by decide) (by decide) rfl (fun ls hl => ?_)
    refine lv_goto (tgt := 2) cx.1 cx.2.1 dX0_isBehind_29 (by decide) ?_
    refine lv_iload_n cx.1 cx.2.1 dX0_isBehind_2 rfl (lv_at hl 0 rfl) ?_
    refine lv_iconst (v := 3) cx.1 cx.2.1 dX0_isBehind_3 (by decide) ?_
    refine lv_icmp_ge (tgt := 32) cx.1 cx.2.1 dX0_isBehind_4 (by decide) (fun h9 => absurd h9 (by decide)) (fun _ => ?_)
    refine lv_aload_n cx.1 cx.2.1 dX0_isBehind_7 rfl (lv_at hl 1 rfl) ?_
    refine xg_2 cx hI dX0_isBehind_8 ?_
    refine lv_iload_n cx.1 cx.2.1 dX0_isBehind_11 rfl (lv_at hl 0 rfl) ?_
    refine xa_cols cx hI (vp1 (by decide) (by decide)) dX0_isBehind_12 ?_
    refine lv_iload_n cx.1 cx.2.1 dX0_isBehind_13 rfl (lv_at hl 2 rfl) ?_
    refine xa_col (j := 1) cx hI (vp1 (by decide) (by decide)) rfl hk dX0_isBehind_14 ?_
    refine lv_aload_n cx.1 cx.2.1 dX0_isBehind_15 rfl (lv_at hl 1 rfl) ?_
    refine lv_iload_n cx.1 cx.2.1 dX0_isBehind_16 rfl (lv_at hl 2 rfl) ?_
    refine lv_iload_n cx.1 cx.2.1 dX0_isBehind_17 rfl (lv_at hl 0 rfl) ?_
    refine xc_i 2 cx (hl.1.trans hml.symm) (kX0_broughtColumn l D ca ad v key 1 hk) hI wk_187 wk_184 wk_186 wq_3 ⟨rfl, by decide +kernel⟩ rfl ⟨rfl, rfl⟩ ⟨Nat.le_of_ble_eq_true rfl, Nat.le_of_ble_eq_true rfl⟩ (Nat.le_of_ble_eq_true rfl) dX0_isBehind_18 ⟨Nat.zero_le _, Nat.zero_le _⟩ rfl (fun H locs hI => ?_)
    refine lv_icmp_eq (tgt := 26) cx.1 cx.2.1 dX0_isBehind_21 (by decide) (fun c_4 => ?_) (fun c_4 => ?_)
    · refine lv_iinc (v := 2) (lv' := [(2, .int 2), (0, .ref (ad 0)), (1, .int key)]) cx.1 cx.2.1 dX0_isBehind_26 hl (k := 0) rfl (by decide) (by decide) rfl (fun ls hl => ?_)
      refine lv_goto (tgt := 2) cx.1 cx.2.1 dX0_isBehind_29 (by decide) ?_
      refine lv_iload_n cx.1 cx.2.1 dX0_isBehind_2 rfl (lv_at hl 0 rfl) ?_
      refine lv_iconst (v := 3) cx.1 cx.2.1 dX0_isBehind_3 (by decide) ?_
      refine lv_icmp_ge (tgt := 32) cx.1 cx.2.1 dX0_isBehind_4 (by decide) (fun h9 => absurd h9 (by decide)) (fun _ => ?_)
      refine lv_aload_n cx.1 cx.2.1 dX0_isBehind_7 rfl (lv_at hl 1 rfl) ?_
      refine xg_2 cx hI dX0_isBehind_8 ?_
      refine lv_iload_n cx.1 cx.2.1 dX0_isBehind_11 rfl (lv_at hl 0 rfl) ?_
      refine xa_cols cx hI (vp2 (by decide) (by decide)) dX0_isBehind_12 ?_
      refine lv_iload_n cx.1 cx.2.1 dX0_isBehind_13 rfl (lv_at hl 2 rfl) ?_
      refine xa_col (j := 2) cx hI (vp2 (by decide) (by decide)) rfl hk dX0_isBehind_14 ?_
      refine lv_aload_n cx.1 cx.2.1 dX0_isBehind_15 rfl (lv_at hl 1 rfl) ?_
      refine lv_iload_n cx.1 cx.2.1 dX0_isBehind_16 rfl (lv_at hl 2 rfl) ?_
      refine lv_iload_n cx.1 cx.2.1 dX0_isBehind_17 rfl (lv_at hl 0 rfl) ?_
      refine xc_i 2 cx (hl.1.trans hml.symm) (kX0_broughtColumn l D ca ad v key 2 hk) hI wk_187 wk_184 wk_186 wq_3 ⟨rfl, by decide +kernel⟩ rfl ⟨rfl, rfl⟩ ⟨Nat.le_of_ble_eq_true rfl, Nat.le_of_ble_eq_true rfl⟩ (Nat.le_of_ble_eq_true rfl) dX0_isBehind_18 ⟨Nat.zero_le _, Nat.zero_le _⟩ rfl (fun H locs hI => ?_)
      refine lv_icmp_eq (tgt := 26) cx.1 cx.2.1 dX0_isBehind_21 (by decide) (fun c_6 => ?_) (fun c_6 => ?_)
      · refine lv_iinc (v := 3) (lv' := [(2, .int 3), (0, .ref (ad 0)), (1, .int key)]) cx.1 cx.2.1 dX0_isBehind_26 hl (k := 0) rfl (by decide) (by decide) rfl (fun ls hl => ?_)
        refine lv_goto (tgt := 2) cx.1 cx.2.1 dX0_isBehind_29 (by decide) ?_
        refine lv_iload_n cx.1 cx.2.1 dX0_isBehind_2 rfl (lv_at hl 0 rfl) ?_
        refine lv_iconst (v := 3) cx.1 cx.2.1 dX0_isBehind_3 (by decide) ?_
        refine lv_icmp_ge (tgt := 32) cx.1 cx.2.1 dX0_isBehind_4 (by decide) (fun _ => ?_) (fun h9 => absurd (by decide : (3 : Int32) ≤ 3) h9)
        refine lv_iconst (v := 0) cx.1 cx.2.1 dX0_isBehind_32 (by decide) ?_
        exact ke_z cx hr hlk hI (Nat.zero_le _) (Nat.zero_le _) dX0_isBehind_33 rfl (congrArg (fun z => some (Value.int z)) (by simp [xBeh, b2i, c_2, c_4, c_6])) rfl
      · refine lv_iconst (v := 1) cx.1 cx.2.1 dX0_isBehind_24 (by decide) ?_
        exact ke_z cx hr hlk hI (Nat.zero_le _) (Nat.zero_le _) dX0_isBehind_25 rfl (congrArg (fun z => some (Value.int z)) (by simp [xBeh, b2i, c_2, c_4, c_6])) rfl
    · refine lv_iconst (v := 1) cx.1 cx.2.1 dX0_isBehind_24 (by decide) ?_
      exact ke_z cx hr hlk hI (Nat.zero_le _) (Nat.zero_le _) dX0_isBehind_25 rfl (congrArg (fun z => some (Value.int z)) (by simp [xBeh, b2i, c_2, c_4])) rfl
  · refine lv_iconst (v := 1) cx.1 cx.2.1 dX0_isBehind_24 (by decide) ?_
    exact ke_z cx hr hlk hI (Nat.zero_le _) (Nat.zero_le _) dX0_isBehind_25 rfl (congrArg (fun z => some (Value.int z)) (by simp [xBeh, b2i, c_2])) rfl
set_option maxHeartbeats 4000000 in
set_option maxRecDepth 100000 in
theorem kX0_followWrite (l : Launch) (D : va_G) (ca : Nat → ClassId) (ad : Nat → Nat) (v : XS) (key : Int32) (hk : vp_in key 40) (h0 : ¬ xc v < 0) : CM l yX0_followWrite cX0_followWrite 2 none (KR 5 108) D ca (xw ad ca v) [.ref (ad 0), .int key] none (xw ad ca (xFollow v key)) := by
  refine CM.of (by decide) (Nat.le_of_ble_eq_true rfl) ?_
  intro p e s m below meth c A ls cx hml hr hlk hI hl
  have hl : lv_has ls 2 [(0, .ref (ad 0)), (1, .int key)] := hl
  refine lv_aload_n cx.1 cx.2.1 dX0_followWrite_0 rfl (lv_at hl 0 rfl) ?_
  refine xg_6 cx hI dX0_followWrite_1 ?_
  refine lv_iconst (v := 1) cx.1 cx.2.1 dX0_followWrite_4 (by decide) ?_
  refine lv_icmp_ne (tgt := 16) cx.1 cx.2.1 dX0_followWrite_5 (by decide) (fun c_1 => ?_) (fun c_1 => ?_)
  · refine lv_aload_n cx.1 cx.2.1 dX0_followWrite_16 rfl (lv_at hl 0 rfl) ?_
    refine xg_6 cx hI dX0_followWrite_17 ?_
    refine lv_iconst (v := 2) cx.1 cx.2.1 dX0_followWrite_20 (by decide) ?_
    refine lv_icmp_ne (tgt := 29) cx.1 cx.2.1 dX0_followWrite_21 (by decide) (fun c_2 => ?_) (fun c_2 => ?_)
    · exact ke_v cx hr hlk hI (Nat.zero_le _) (Nat.zero_le _) dX0_followWrite_29 rfl (congrArg (xw ad ca) (by simp [xFollow, c_1, c_2]))
    · refine lv_aload_n cx.1 cx.2.1 dX0_followWrite_24 rfl (lv_at hl 0 rfl) ?_
      refine lv_iload_n cx.1 cx.2.1 dX0_followWrite_25 rfl (lv_at hl 1 rfl) ?_
      refine xc_v 1 cx (hl.1.trans hml.symm) (kX0_bring l D ca ad v key hk) hI wk_280 wk_277 wk_279 wq_14 ⟨rfl, by decide +kernel⟩ rfl ⟨rfl, rfl⟩ ⟨Nat.le_of_ble_eq_true rfl, Nat.le_of_ble_eq_true rfl⟩ (Nat.le_of_ble_eq_true rfl) dX0_followWrite_26 ⟨Nat.zero_le _, Nat.zero_le _⟩ rfl (fun H locs hI => ?_)
      exact ke_v cx hr hlk hI (Nat.zero_le _) (Nat.zero_le _) dX0_followWrite_29 rfl (congrArg (xw ad ca) (by simp [xFollow, c_1, c_2]))
  · refine lv_aload_n cx.1 cx.2.1 dX0_followWrite_8 rfl (lv_at hl 0 rfl) ?_
    refine lv_iload_n cx.1 cx.2.1 dX0_followWrite_9 rfl (lv_at hl 1 rfl) ?_
    refine xc_v 1 cx (hl.1.trans hml.symm) (kX0_noteKey l D ca ad v key h0) hI wk_276 wk_273 wk_275 wq_13 ⟨rfl, by decide +kernel⟩ rfl ⟨rfl, rfl⟩ ⟨Nat.le_of_ble_eq_true rfl, Nat.le_of_ble_eq_true rfl⟩ (Nat.le_of_ble_eq_true rfl) dX0_followWrite_10 ⟨Nat.zero_le _, Nat.zero_le _⟩ rfl (fun H locs hI => ?_)
    refine lv_goto (tgt := 29) cx.1 cx.2.1 dX0_followWrite_13 (by decide) ?_
    exact ke_v cx hr hlk hI (Nat.zero_le _) (Nat.zero_le _) dX0_followWrite_29 rfl (congrArg (xw ad ca) (by simp [xFollow, c_1]))
set_option maxHeartbeats 4000000 in
set_option maxRecDepth 100000 in
theorem kX0_rows (l : Launch) (D : va_G) (ca : Nat → ClassId) (ad : Nat → Nat) (v : XS) : CM l yX0_rows cX0_rows 3 (some .int) (KR 2 42) D ca (xw ad ca v) [.ref (ad 0)] (some (.int (xRows v 40))) (xw ad ca v) := by
  refine CM.of (by decide) (Nat.le_of_ble_eq_true rfl) ?_
  intro p e s m below meth c A ls cx hml hr hlk hI hl
  have hl : lv_has ls 3 [(0, .ref (ad 0))] := hl
  refine lv_iconst (v := 0) cx.1 cx.2.1 dX0_rows_0 (by decide) ?_
  refine lv_istore_n (lv' := [(1, .int 0), (0, .ref (ad 0))]) cx.1 cx.2.1 dX0_rows_1 rfl hl (by decide) rfl (fun ls hl => ?_)
  refine lv_iconst (v := 0) cx.1 cx.2.1 dX0_rows_2 (by decide) ?_
  refine lv_istore_n (lv' := [(2, .int 0), (1, .int 0), (0, .ref (ad 0))]) cx.1 cx.2.1 dX0_rows_3 rfl hl (by decide) rfl (fun ls hl => ?_)
  refine k_loop 40 (fun i => (xw ad ca v)) (fun i => [(2, .int (nI i)), (1, .int (xRows v i)), (0, .ref (ad 0))]) hI (lv_sub hl [0, 1, 2] rfl) (fun H locs ls hI hl => ?_) (fun i hi H locs ls hI hl ih => ?_)
  · have hI : KI D A (xw ad ca v) s.heap H locs := hI
    have hl : lv_has ls 3 [(2, .int (nI 40)), (1, .int (xRows v 40)), (0, .ref (ad 0))] := hl
    refine lv_iload_n cx.1 cx.2.1 dX0_rows_4 rfl (lv_at hl 0 rfl) ?_
    refine lv_bipush (v := 40) cx.1 cx.2.1 dX0_rows_5 (by decide) ?_
    refine lv_icmp_ge (tgt := 27) cx.1 cx.2.1 dX0_rows_7 (by decide) (fun _ => ?_) (fun h9 => absurd (by decide : (40 : Int32) ≤ nI 40) h9)
    refine lv_iload_n cx.1 cx.2.1 dX0_rows_27 rfl (lv_at hl 1 rfl) ?_
    exact ke_i cx hr hlk hI (Nat.zero_le _) (Nat.zero_le _) dX0_rows_28 rfl rfl
  · have hI : KI D A (xw ad ca v) s.heap H locs := hI
    have hl : lv_has ls 3 [(2, .int (nI i)), (1, .int (xRows v i)), (0, .ref (ad 0))] := hl
    refine lv_iload_n cx.1 cx.2.1 dX0_rows_4 rfl (lv_at hl 0 rfl) ?_
    refine lv_bipush (v := 40) cx.1 cx.2.1 dX0_rows_5 (by decide) ?_
    refine lv_icmp_ge (tgt := 27) cx.1 cx.2.1 dX0_rows_7 (by decide) (fun h9 => absurd h9 (nI_ge hi (by decide))) (fun _ => ?_)
    refine lv_aload_n cx.1 cx.2.1 dX0_rows_10 rfl (lv_at hl 2 rfl) ?_
    refine lv_iload_n cx.1 cx.2.1 dX0_rows_11 rfl (lv_at hl 0 rfl) ?_
    refine xc_i 1 cx (hl.1.trans hml.symm) (kX0_isSeen l D ca ad v (nI i) (vp_in_nI hi (by decide))) hI wk_248 wk_245 wk_247 wq_10 ⟨rfl, by decide +kernel⟩ rfl ⟨rfl, rfl⟩ ⟨Nat.le_of_ble_eq_true rfl, Nat.le_of_ble_eq_true rfl⟩ (Nat.le_of_ble_eq_true rfl) dX0_rows_12 ⟨Nat.zero_le _, Nat.zero_le _⟩ rfl (fun H locs hI => ?_)
    refine kb_eq (tgt := 21) cx dX0_rows_15 (by decide) (fun c_3 => ?_) (fun c_3 => ?_)
    · refine lv_iinc (v := nI (i + 1)) (lv' := [(2, .int (nI (i + 1))), (1, .int (xRows v i)), (0, .ref (ad 0))]) cx.1 cx.2.1 dX0_rows_21 hl (k := 0) rfl (nI_1 i) (by decide) rfl (fun ls hl => ?_)
      refine lv_goto (tgt := 4) cx.1 cx.2.1 dX0_rows_24 (by decide) ?_
      refine ih _ _ _ ?_ ?_
      · show KI D A (xw ad ca v) s.heap _ _
        exact hI
      · show lv_has _ _ [(2, .int (nI (i + 1))), (1, .int (xRows v (i + 1))), (0, .ref (ad 0))]
        rw [show xRows v (i + 1) = xRows v i from (by simp [c_3, xRows_t, xRows_f])]
        exact lv_sub hl [0, 1, 2] rfl
    · refine lv_iinc (v := xRows v i + 1) (lv' := [(1, .int (xRows v i + 1)), (2, .int (nI i)), (0, .ref (ad 0))]) cx.1 cx.2.1 dX0_rows_18 hl (k := 1) rfl rfl (by decide) rfl (fun ls hl => ?_)
      refine lv_iinc (v := nI (i + 1)) (lv' := [(2, .int (nI (i + 1))), (1, .int (xRows v i + 1)), (0, .ref (ad 0))]) cx.1 cx.2.1 dX0_rows_21 hl (k := 1) rfl (nI_1 i) (by decide) rfl (fun ls hl => ?_)
      refine lv_goto (tgt := 4) cx.1 cx.2.1 dX0_rows_24 (by decide) ?_
      refine ih _ _ _ ?_ ?_
      · show KI D A (xw ad ca v) s.heap _ _
        exact hI
      · show lv_has _ _ [(2, .int (nI (i + 1))), (1, .int (xRows v (i + 1))), (0, .ref (ad 0))]
        rw [show xRows v (i + 1) = xRows v i + 1 from (by simp [c_3, xRows_t, xRows_f])]
        exact lv_sub hl [0, 1, 2] rfl
set_option maxHeartbeats 4000000 in
set_option maxRecDepth 100000 in
theorem kX0_shadowRows (l : Launch) (D : va_G) (ca : Nat → ClassId) (ad : Nat → Nat) (v : XS) : CM l yX0_shadowRows cX0_shadowRows 3 (some .int) (KR 1 21) D ca (xw ad ca v) [.ref (ad 0)] (some (.int (xShRows v 40))) (xw ad ca v) := by
  refine CM.of (by decide) (Nat.le_of_ble_eq_true rfl) ?_
  intro p e s m below meth c A ls cx hml hr hlk hI hl
  have hl : lv_has ls 3 [(0, .ref (ad 0))] := hl
  refine lv_iconst (v := 0) cx.1 cx.2.1 dX0_shadowRows_0 (by decide) ?_
  refine lv_istore_n (lv' := [(1, .int 0), (0, .ref (ad 0))]) cx.1 cx.2.1 dX0_shadowRows_1 rfl hl (by decide) rfl (fun ls hl => ?_)
  refine lv_iconst (v := 0) cx.1 cx.2.1 dX0_shadowRows_2 (by decide) ?_
  refine lv_istore_n (lv' := [(2, .int 0), (1, .int 0), (0, .ref (ad 0))]) cx.1 cx.2.1 dX0_shadowRows_3 rfl hl (by decide) rfl (fun ls hl => ?_)
  refine k_loop 40 (fun i => (xw ad ca v)) (fun i => [(2, .int (nI i)), (1, .int (xShRows v i)), (0, .ref (ad 0))]) hI (lv_sub hl [0, 1, 2] rfl) (fun H locs ls hI hl => ?_) (fun i hi H locs ls hI hl ih => ?_)
  · have hI : KI D A (xw ad ca v) s.heap H locs := hI
    have hl : lv_has ls 3 [(2, .int (nI 40)), (1, .int (xShRows v 40)), (0, .ref (ad 0))] := hl
    refine lv_iload_n cx.1 cx.2.1 dX0_shadowRows_4 rfl (lv_at hl 0 rfl) ?_
    refine lv_bipush (v := 40) cx.1 cx.2.1 dX0_shadowRows_5 (by decide) ?_
    refine lv_icmp_ge (tgt := 27) cx.1 cx.2.1 dX0_shadowRows_7 (by decide) (fun _ => ?_) (fun h9 => absurd (by decide : (40 : Int32) ≤ nI 40) h9)
    refine lv_iload_n cx.1 cx.2.1 dX0_shadowRows_27 rfl (lv_at hl 1 rfl) ?_
    exact ke_i cx hr hlk hI (Nat.zero_le _) (Nat.zero_le _) dX0_shadowRows_28 rfl rfl
  · have hI : KI D A (xw ad ca v) s.heap H locs := hI
    have hl : lv_has ls 3 [(2, .int (nI i)), (1, .int (xShRows v i)), (0, .ref (ad 0))] := hl
    refine lv_iload_n cx.1 cx.2.1 dX0_shadowRows_4 rfl (lv_at hl 0 rfl) ?_
    refine lv_bipush (v := 40) cx.1 cx.2.1 dX0_shadowRows_5 (by decide) ?_
    refine lv_icmp_ge (tgt := 27) cx.1 cx.2.1 dX0_shadowRows_7 (by decide) (fun h9 => absurd h9 (nI_ge hi (by decide))) (fun _ => ?_)
    refine lv_aload_n cx.1 cx.2.1 dX0_shadowRows_10 rfl (lv_at hl 2 rfl) ?_
    refine lv_iload_n cx.1 cx.2.1 dX0_shadowRows_11 rfl (lv_at hl 0 rfl) ?_
    refine xc_i 1 cx (hl.1.trans hml.symm) (kX0_isInShadow l D ca ad v (nI i) (vp_in_nI hi (by decide))) hI wk_175 wk_172 wk_174 wq_1 ⟨rfl, by decide +kernel⟩ rfl ⟨rfl, rfl⟩ ⟨Nat.le_of_ble_eq_true rfl, Nat.le_of_ble_eq_true rfl⟩ (Nat.le_of_ble_eq_true rfl) dX0_shadowRows_12 ⟨Nat.zero_le _, Nat.zero_le _⟩ rfl (fun H locs hI => ?_)
    refine kb_eq (tgt := 21) cx dX0_shadowRows_15 (by decide) (fun c_3 => ?_) (fun c_3 => ?_)
    · refine lv_iinc (v := nI (i + 1)) (lv' := [(2, .int (nI (i + 1))), (1, .int (xShRows v i)), (0, .ref (ad 0))]) cx.1 cx.2.1 dX0_shadowRows_21 hl (k := 0) rfl (nI_1 i) (by decide) rfl (fun ls hl => ?_)
      refine lv_goto (tgt := 4) cx.1 cx.2.1 dX0_shadowRows_24 (by decide) ?_
      refine ih _ _ _ ?_ ?_
      · show KI D A (xw ad ca v) s.heap _ _
        exact hI
      · show lv_has _ _ [(2, .int (nI (i + 1))), (1, .int (xShRows v (i + 1))), (0, .ref (ad 0))]
        rw [show xShRows v (i + 1) = xShRows v i from (by simp [c_3, xShRows_t, xShRows_f])]
        exact lv_sub hl [0, 1, 2] rfl
    · refine lv_iinc (v := xShRows v i + 1) (lv' := [(1, .int (xShRows v i + 1)), (2, .int (nI i)), (0, .ref (ad 0))]) cx.1 cx.2.1 dX0_shadowRows_18 hl (k := 1) rfl rfl (by decide) rfl (fun ls hl => ?_)
      refine lv_iinc (v := nI (i + 1)) (lv' := [(2, .int (nI (i + 1))), (1, .int (xShRows v i + 1)), (0, .ref (ad 0))]) cx.1 cx.2.1 dX0_shadowRows_21 hl (k := 1) rfl (nI_1 i) (by decide) rfl (fun ls hl => ?_)
      refine lv_goto (tgt := 4) cx.1 cx.2.1 dX0_shadowRows_24 (by decide) ?_
      refine ih _ _ _ ?_ ?_
      · show KI D A (xw ad ca v) s.heap _ _
        exact hI
      · show lv_has _ _ [(2, .int (nI (i + 1))), (1, .int (xShRows v (i + 1))), (0, .ref (ad 0))]
        rw [show xShRows v (i + 1) = xShRows v i + 1 from (by simp [c_3, xShRows_t, xShRows_f])]
        exact lv_sub hl [0, 1, 2] rfl
set_option maxHeartbeats 4000000 in
set_option maxRecDepth 100000 in
theorem kX0_behind (l : Launch) (D : va_G) (ca : Nat → ClassId) (ad : Nat → Nat) (v : XS) : CM l yX0_behind cX0_behind 3 (some .int) (KR 5 108) D ca (xw ad ca v) [.ref (ad 0)] (some (.int (if xp v = 0 then 0 else xBehinds v 40))) (xw ad ca v) := by
  refine CM.of (by decide) (Nat.le_of_ble_eq_true rfl) ?_
  intro p e s m below meth c A ls cx hml hr hlk hI hl
  have hl : lv_has ls 3 [(0, .ref (ad 0))] := hl
  refine lv_aload_n cx.1 cx.2.1 dX0_behind_0 rfl (lv_at hl 0 rfl) ?_
  refine xg_6 cx hI dX0_behind_1 ?_
  refine lv_if_ne (tgt := 9) cx.1 cx.2.1 dX0_behind_4 (by decide) (fun c_1 => ?_) (fun c_1 => ?_)
  · refine lv_iconst (v := 0) cx.1 cx.2.1 dX0_behind_9 (by decide) ?_
    refine lv_istore_n (lv' := [(1, .int 0), (0, .ref (ad 0))]) cx.1 cx.2.1 dX0_behind_10 rfl hl (by decide) rfl (fun ls hl => ?_)
    refine lv_iconst (v := 0) cx.1 cx.2.1 dX0_behind_11 (by decide) ?_
    refine lv_istore_n (lv' := [(2, .int 0), (1, .int 0), (0, .ref (ad 0))]) cx.1 cx.2.1 dX0_behind_12 rfl hl (by decide) rfl (fun ls hl => ?_)
    refine k_loop 40 (fun i => (xw ad ca v)) (fun i => [(2, .int (nI i)), (1, .int (xBehinds v i)), (0, .ref (ad 0))]) hI (lv_sub hl [0, 1, 2] rfl) (fun H locs ls hI hl => ?_) (fun i hi H locs ls hI hl ih => ?_)
    · have hI : KI D A (xw ad ca v) s.heap H locs := hI
      have hl : lv_has ls 3 [(2, .int (nI 40)), (1, .int (xBehinds v 40)), (0, .ref (ad 0))] := hl
      refine lv_iload_n cx.1 cx.2.1 dX0_behind_13 rfl (lv_at hl 0 rfl) ?_
      refine lv_bipush (v := 40) cx.1 cx.2.1 dX0_behind_14 (by decide) ?_
      refine lv_icmp_ge (tgt := 36) cx.1 cx.2.1 dX0_behind_16 (by decide) (fun _ => ?_) (fun h9 => absurd (by decide : (40 : Int32) ≤ nI 40) h9)
      refine lv_iload_n cx.1 cx.2.1 dX0_behind_36 rfl (lv_at hl 1 rfl) ?_
      exact ke_i cx hr hlk hI (Nat.zero_le _) (Nat.zero_le _) dX0_behind_37 (congrArg (fun z => some (Value.int z)) (by simp [c_1])) rfl
    · have hI : KI D A (xw ad ca v) s.heap H locs := hI
      have hl : lv_has ls 3 [(2, .int (nI i)), (1, .int (xBehinds v i)), (0, .ref (ad 0))] := hl
      refine lv_iload_n cx.1 cx.2.1 dX0_behind_13 rfl (lv_at hl 0 rfl) ?_
      refine lv_bipush (v := 40) cx.1 cx.2.1 dX0_behind_14 (by decide) ?_
      refine lv_icmp_ge (tgt := 36) cx.1 cx.2.1 dX0_behind_16 (by decide) (fun h9 => absurd h9 (nI_ge hi (by decide))) (fun _ => ?_)
      refine lv_aload_n cx.1 cx.2.1 dX0_behind_19 rfl (lv_at hl 2 rfl) ?_
      refine lv_iload_n cx.1 cx.2.1 dX0_behind_20 rfl (lv_at hl 0 rfl) ?_
      refine xc_i 1 cx (hl.1.trans hml.symm) (kX0_isBehind l D ca ad v (nI i) (vp_in_nI hi (by decide))) hI wk_183 wk_180 wk_182 wq_2 ⟨rfl, by decide +kernel⟩ rfl ⟨rfl, rfl⟩ ⟨Nat.le_of_ble_eq_true rfl, Nat.le_of_ble_eq_true rfl⟩ (Nat.le_of_ble_eq_true rfl) dX0_behind_21 ⟨Nat.zero_le _, Nat.zero_le _⟩ rfl (fun H locs hI => ?_)
      refine kb_eq (tgt := 30) cx dX0_behind_24 (by decide) (fun c_4 => ?_) (fun c_4 => ?_)
      · refine lv_iinc (v := nI (i + 1)) (lv' := [(2, .int (nI (i + 1))), (1, .int (xBehinds v i)), (0, .ref (ad 0))]) cx.1 cx.2.1 dX0_behind_30 hl (k := 0) rfl (nI_1 i) (by decide) rfl (fun ls hl => ?_)
        refine lv_goto (tgt := 13) cx.1 cx.2.1 dX0_behind_33 (by decide) ?_
        refine ih _ _ _ ?_ ?_
        · show KI D A (xw ad ca v) s.heap _ _
          exact hI
        · show lv_has _ _ [(2, .int (nI (i + 1))), (1, .int (xBehinds v (i + 1))), (0, .ref (ad 0))]
          rw [show xBehinds v (i + 1) = xBehinds v i from (by simp [c_4, xBehinds_t, xBehinds_f])]
          exact lv_sub hl [0, 1, 2] rfl
      · refine lv_iinc (v := xBehinds v i + 1) (lv' := [(1, .int (xBehinds v i + 1)), (2, .int (nI i)), (0, .ref (ad 0))]) cx.1 cx.2.1 dX0_behind_27 hl (k := 1) rfl rfl (by decide) rfl (fun ls hl => ?_)
        refine lv_iinc (v := nI (i + 1)) (lv' := [(2, .int (nI (i + 1))), (1, .int (xBehinds v i + 1)), (0, .ref (ad 0))]) cx.1 cx.2.1 dX0_behind_30 hl (k := 1) rfl (nI_1 i) (by decide) rfl (fun ls hl => ?_)
        refine lv_goto (tgt := 13) cx.1 cx.2.1 dX0_behind_33 (by decide) ?_
        refine ih _ _ _ ?_ ?_
        · show KI D A (xw ad ca v) s.heap _ _
          exact hI
        · show lv_has _ _ [(2, .int (nI (i + 1))), (1, .int (xBehinds v (i + 1))), (0, .ref (ad 0))]
          rw [show xBehinds v (i + 1) = xBehinds v i + 1 from (by simp [c_4, xBehinds_t, xBehinds_f])]
          exact lv_sub hl [0, 1, 2] rfl
  · refine lv_iconst (v := 0) cx.1 cx.2.1 dX0_behind_7 (by decide) ?_
    exact ke_i cx hr hlk hI (Nat.zero_le _) (Nat.zero_le _) dX0_behind_8 (congrArg (fun z => some (Value.int z)) (by simp [c_1])) rfl
set_option maxHeartbeats 4000000 in
set_option maxRecDepth 100000 in
theorem kX0_phase (l : Launch) (D : va_G) (ca : Nat → ClassId) (ad : Nat → Nat) (v : XS) : CM l yX0_phase cX0_phase 1 (some .int) (KR 0 0) D ca (xw ad ca v) [.ref (ad 0)] (some (.int (xp v))) (xw ad ca v) := by
  refine CM.of (by decide) (Nat.le_of_ble_eq_true rfl) ?_
  intro p e s m below meth c A ls cx hml hr hlk hI hl
  have hl : lv_has ls 1 [(0, .ref (ad 0))] := hl
  refine lv_aload_n cx.1 cx.2.1 dX0_phase_0 rfl (lv_at hl 0 rfl) ?_
  refine xg_6 cx hI dX0_phase_1 ?_
  exact ke_i cx hr hlk hI (Nat.zero_le _) (Nat.zero_le _) dX0_phase_4 rfl rfl
set_option maxHeartbeats 4000000 in
set_option maxRecDepth 100000 in
theorem kX0_mark (l : Launch) (D : va_G) (ca : Nat → ClassId) (ad : Nat → Nat) (v : XS) : CM l yX0_mark cX0_mark 1 (some .int) (KR 0 0) D ca (xw ad ca v) [.ref (ad 0)] (some (.int (if xp v = 0 then -1 else xm v))) (xw ad ca v) := by
  refine CM.of (by decide) (Nat.le_of_ble_eq_true rfl) ?_
  intro p e s m below meth c A ls cx hml hr hlk hI hl
  have hl : lv_has ls 1 [(0, .ref (ad 0))] := hl
  refine lv_aload_n cx.1 cx.2.1 dX0_mark_0 rfl (lv_at hl 0 rfl) ?_
  refine xg_6 cx hI dX0_mark_1 ?_
  refine lv_if_ne (tgt := 11) cx.1 cx.2.1 dX0_mark_4 (by decide) (fun c_1 => ?_) (fun c_1 => ?_)
  · refine lv_aload_n cx.1 cx.2.1 dX0_mark_11 rfl (lv_at hl 0 rfl) ?_
    refine xg_7 cx hI dX0_mark_12 ?_
    exact ke_i cx hr hlk hI (Nat.zero_le _) (Nat.zero_le _) dX0_mark_15 (congrArg (fun z => some (Value.int z)) (by simp [c_1])) rfl
  · refine lv_iconst (v := (-1)) cx.1 cx.2.1 dX0_mark_7 (by decide) ?_
    refine lv_goto (tgt := 15) cx.1 cx.2.1 dX0_mark_8 (by decide) ?_
    exact ke_i cx hr hlk hI (Nat.zero_le _) (Nat.zero_le _) dX0_mark_15 (congrArg (fun z => some (Value.int z)) (by simp [c_1])) rfl
set_option maxHeartbeats 4000000 in
set_option maxRecDepth 100000 in
theorem kX0_notes (l : Launch) (D : va_G) (ca : Nat → ClassId) (ad : Nat → Nat) (v : XS) : CM l yX0_notes cX0_notes 1 (some .int) (KR 0 0) D ca (xw ad ca v) [.ref (ad 0)] (some (.int (xc v))) (xw ad ca v) := by
  refine CM.of (by decide) (Nat.le_of_ble_eq_true rfl) ?_
  intro p e s m below meth c A ls cx hml hr hlk hI hl
  have hl : lv_has ls 1 [(0, .ref (ad 0))] := hl
  refine lv_aload_n cx.1 cx.2.1 dX0_notes_0 rfl (lv_at hl 0 rfl) ?_
  refine xg_5 cx hI dX0_notes_1 ?_
  exact ke_i cx hr hlk hI (Nat.zero_le _) (Nat.zero_le _) dX0_notes_4 rfl rfl
end
section
/-! MINE: Arrays.fill, the columns filled, notes moved up. -/
theorem kFill_0 (y : Int32) (f : Nat → Int32) : kFill 0 y f = f := funext fun j => by simp [kFill]
theorem kFill_s {i : Nat} (hi : i < 2 ^ 31) (y : Int32) (f : Nat → Int32) : upd (kFill i y f) (nI i).toNatClampNeg y = kFill (i + 1) y f := by
  rw [nI_clamp hi]
  funext j
  by_cases h : j = i
  · subst h
    rw [pk_us]
    simp [kFill]
  · rw [pk_un h]
    simp only [kFill]
    by_cases h2 : j < i
    · rw [if_pos h2, if_pos (by omega)]
    · rw [if_neg h2, if_neg (by omega)]
set_option maxHeartbeats 4000000 in
set_option maxRecDepth 100000 in
theorem kJ7_fill (l : Launch) (D : va_G) (ca : Nat → ClassId) (a n : Nat) (hn : n < 2 ^ 31) (f : Nat → Int32) (y : Int32) : CM l yJ7_fill_53178 cJ7_fill_53178 4 none (KR 0 0) D ca [(a, .inl (ca 0, n, .inl f))] [.ref a, .int y] none [(a, .inl (ca 0, n, .inl (kFill n y f)))] := by
  refine CM.of (by decide) (Nat.le_of_ble_eq_true rfl) ?_
  intro p e s m below meth c A ls cx hml hr hlk hI hl
  have hl : lv_has ls 4 [(0, .ref a), (1, .int y)] := hl
  refine lv_iconst (v := 0) cx.1 cx.2.1 dJ7_fill_53178_0 (by decide) ?_
  refine lv_istore_n (lv' := [(2, .int 0), (0, .ref a), (1, .int y)]) cx.1 cx.2.1 dJ7_fill_53178_1 rfl hl (by decide) rfl (fun ls hl => ?_)
  refine lv_aload_n cx.1 cx.2.1 dJ7_fill_53178_2 rfl (lv_at hl 1 rfl) ?_
  refine va_alen cx.1 cx.2.1 cx.2.2.2.2 hI.1 0 0 rfl rfl (v := nI n) rfl dJ7_fill_53178_3 ?_
  refine lv_istore_n (lv' := [(3, .int (nI n)), (2, .int 0), (0, .ref a), (1, .int y)]) cx.1 cx.2.1 dJ7_fill_53178_4 rfl hl (by decide) rfl (fun ls hl => ?_)
  refine k_loop n (fun i => [(a, .inl (ca 0, n, .inl (kFill i y f)))]) (fun i => [(2, .int (nI i)), (3, .int (nI n)), (0, .ref a), (1, .int y)]) (by rw [kFill_0]; exact hI) (lv_sub hl [1, 0, 2, 3] rfl) (fun H locs ls hI hl => ?_) (fun i hi H locs ls hI hl ih => ?_)
  · refine lv_iload_n cx.1 cx.2.1 dJ7_fill_53178_5 rfl (lv_at hl 0 rfl) ?_
    refine lv_iload_n cx.1 cx.2.1 dJ7_fill_53178_6 rfl (lv_at hl 1 rfl) ?_
    refine lv_icmp_ge (tgt := 20) cx.1 cx.2.1 dJ7_fill_53178_7 (by decide) (fun _ => ?_) (fun h9 => absurd (Int32.le_refl _) h9)
    exact ke_v cx hr hlk hI (Nat.zero_le _) (Nat.zero_le _) dJ7_fill_53178_20 rfl rfl
  · refine lv_iload_n cx.1 cx.2.1 dJ7_fill_53178_5 rfl (lv_at hl 0 rfl) ?_
    refine lv_iload_n cx.1 cx.2.1 dJ7_fill_53178_6 rfl (lv_at hl 1 rfl) ?_
    refine lv_icmp_ge (tgt := 20) cx.1 cx.2.1 dJ7_fill_53178_7 (by decide) (fun h9 => absurd h9 (nI_ge hi hn)) (fun _ => ?_)
    refine lv_aload_n cx.1 cx.2.1 dJ7_fill_53178_10 rfl (lv_at hl 2 rfl) ?_
    refine lv_iload_n cx.1 cx.2.1 dJ7_fill_53178_11 rfl (lv_at hl 0 rfl) ?_
    refine lv_iload_n cx.1 cx.2.1 dJ7_fill_53178_12 rfl (lv_at hl 3 rfl) ?_
    refine va_iast cx.1 cx.2.1 cx.2.2.2.2 hI.1 hI.2.1 hI.2.2.1 0 0 rfl rfl (vp_in_nI hi hn) dJ7_fill_53178_13 (fun H1 locs1 hP hD hS => ?_)
    rw [kFill_s (Nat.lt_trans hi hn)] at hP hD
    have hI : KI D A [(a, .inl (ca 0, n, .inl (kFill (i + 1) y f)))] s.heap H1 locs1 := ⟨hP, hD, hS, hI.2.2.2⟩
    refine lv_iinc (v := nI (i + 1)) (lv' := [(2, .int (nI (i + 1))), (3, .int (nI n)), (0, .ref a), (1, .int y)]) cx.1 cx.2.1 dJ7_fill_53178_14 hl (k := 0) rfl (nI_1 i) (by decide) rfl (fun ls hl => ?_)
    refine lv_goto (tgt := 5) cx.1 cx.2.1 dJ7_fill_53178_17 (by decide) ?_
    exact ih _ _ _ hI hl
section KFILL
variable {p : Program} {l : Launch} {e : Env} {R : Room} {s : State} {m : MethodId} {args : Array Value} {below : List Frame} {meth : Method} {c : Code} {H : Heap} {locs : List Loc} {cells slots : Nat} {Q : State → Prop}
variable {cc : ByteArray} {pc : Nat} {ls : Array Slot} {rest : List Value} {D : va_G} {ca : Nat → ClassId} {A : Nat → Prop} {ad : Nat → Nat} {own : String} {index : Nat}
theorem k_fillAt (pre post : va_W) {W0 W1 : va_W} {a n : Nat} {f : Nat → Int32} {y : Int32} (hn : n < 2 ^ 31) (cx : KC p c cc s args m own D ca) (hls : ls.size = c.maxLocals) (hI : KI D A W0 s.heap H locs) (e0 : W0 = pre ++ ([(a, .inl (ca 0, n, .inl f))] ++ post)) (e1 : W1 = pre ++ ([(a, .inl (ca 0, n, .inl (kFill n y f)))] ++ post))
    (h1 : Cond.methodLink own index yJ7_fill_53178 ∈ WL) (hR : 1 ≤ R.frames ∧ 23 ≤ R.locals) (hW : (rest.map fun v => v.category).sum ≤ 8) (hdg : decode cc pc = .ok (.invokestatic index, 3)) (hf : cells ≤ R.cells ∧ slots ≤ R.slots)
    (kk : ∀ H1 locs1, KI D A W1 s.heap H1 locs1 → W p l e R s m args below meth c H1 locs1 cells slots Q (F0 m (pc + 3) ls rest)) : W p l e R s m args below meth c H locs cells slots Q (F0 m pc ls (.int y :: .ref a :: rest)) :=
  k_callS 2 pre post cx hls (kJ7_fill l D ca a n hn f y) hI e0 e1 rfl wk_27 h1 wk_26 wk_2 ⟨by decide, by decide, by decide +kernel⟩ rfl ⟨rfl, rfl⟩ ⟨hR.1, hR.2⟩ hW hdg hf rfl kk
theorem k_fillcol {v : XS} (cx : KC p c cc s args m own D ca) (hls : ls.size = c.maxLocals) (hI : KI D A (xw ad ca v) s.heap H locs) {c0 y : Int32} (hc : vp_in c0 3)
    (h1 : Cond.methodLink own index yJ7_fill_53178 ∈ WL) (hR : 1 ≤ R.frames ∧ 23 ≤ R.locals) (hW : (rest.map fun v => v.category).sum ≤ 8) (hdg : decode cc pc = .ok (.invokestatic index, 3)) (hf : cells ≤ R.cells ∧ slots ≤ R.slots)
    (kk : ∀ H1 locs1, KI D A (xw ad ca (xUC v c0.toNatClampNeg (kFill 40 y (xC v c0.toNatClampNeg)))) s.heap H1 locs1 → W p l e R s m args below meth c H1 locs1 cells slots Q (F0 m (pc + 3) ls rest)) : W p l e R s m args below meth c H locs cells slots Q (F0 m pc ls (.int y :: .ref (ad (4 + c0.toNatClampNeg)) :: rest)) := by
  rcases k3 hc with h | h | h <;> rw [h] at kk ⊢
  · exact k_fillAt ((xw ad ca v).take 4) ((xw ad ca v).drop 5) (by decide) cx hls hI rfl rfl h1 hR hW hdg hf kk
  · exact k_fillAt ((xw ad ca v).take 5) ((xw ad ca v).drop 6) (by decide) cx hls hI rfl rfl h1 hR hW hdg hf kk
  · exact k_fillAt ((xw ad ca v).take 6) ((xw ad ca v).drop 7) (by decide) cx hls hI rfl rfl h1 hR hW hdg hf kk
theorem k_copyN {v : XS} (cx : KC p c cc s args m own D ca) (hls : ls.size = c.maxLocals) (hI : KI D A (xw ad ca v) s.heap H locs) (h0 : Cond.methodLink own index arraycopyName ∈ WL) {sp dp n : Int32} (h1 : ¬ sp < 0) (h2 : ¬ dp < 0) (h3 : ¬ n < 0) (h4 : sp.toNatClampNeg + n.toNatClampNeg ≤ 1024) (h5 : dp.toNatClampNeg + n.toNatClampNeg ≤ 1024)
    (hframes : 1 ≤ R.frames) (hlocals : (rest.map fun v => v.category).sum + (nativeFrameWords "java/lang/System" "arraycopy" 5 + 11) ≤ R.locals) (hdg : decode cc pc = .ok (.invokestatic index, 3))
    (kk : ∀ H1 locs1, KI D A (xw ad ca (xUN v (va_cpy (xN v) (xN v) sp.toNatClampNeg dp.toNatClampNeg n.toNatClampNeg))) s.heap H1 locs1 → W p l e R s m args below meth c H1 locs1 cells slots Q (F0 m (pc + 3) ls rest)) : W p l e R s m args below meth c H locs cells slots Q (F0 m pc ls (.int n :: .int dp :: .ref (ad 8) :: .int sp :: .ref (ad 8) :: rest)) :=
  va_copyi cx.1 cx.2.1 hls.symm cx.2.2.1 (cx.2.2.2.1 _ h0) (cx.2.2.2.1 _ wk_342) (cx.2.2.2.1 _ wk_341) (cx.2.2.2.1 _ wk_11) cx.2.2.2.2 hI.1 hI.2.1 hI.2.2.1 8 8 0 0 rfl rfl rfl rfl rfl h1 h2 h3 h4 h5 (fun _ _ => rfl) hframes hlocals hdg (fun H1 locs1 hP hD hS => kk H1 locs1 ⟨hP, hD, hS, hI.2.2.2⟩)
end KFILL
def kMin (a b : Int32) : Int32 := if b < a then b else a
def kMax (a b : Int32) : Int32 := if a < b then b else a
theorem kMin_in {a b : Int32} {n : Nat} (ha : vp_in a n) (hb : vp_in b n) : vp_in (kMin a b) n := by unfold kMin; split <;> assumption
theorem kMax_in {a b : Int32} {n : Nat} (ha : vp_in a n) (hb : vp_in b n) : vp_in (kMax a b) n := by unfold kMax; split <;> assumption
theorem xFollow_c {v : XS} {k : Int32} (h0 : ¬ xc v < 0) : ¬ xc (xFollow v k) < 0 := by
  unfold xFollow
  by_cases h1 : xp v = 1
  · rw [if_pos h1]
    unfold xNote
    by_cases h2 : (1024 : Int32) ≤ xc v
    · rw [if_pos h2]; exact h0
    · rw [if_neg h2]
      show ¬ xc v + 1 < 0
      obtain ⟨j, hj, e⟩ := nI_of h0
      rw [e] at h2 ⊢
      have : j < 1024 := Nat.not_le.mp fun q => h2 (nI_le q hj)
      rw [nI_1]
      exact nI_pos (by omega)
  · rw [if_neg h1]
    by_cases h2 : xp v = 2
    · rw [if_pos h2]; exact h0
    · rw [if_neg h2]; exact h0
/-- what is thrown, by number -/
def xfInsert (v : XS) (key a b : Int32) : Nat := if !xWithin key 0 39 then 1 else if !xCbw v a b then 2 else if xSeen v key then 3 else 0
def xfUpdate (v : XS) (key a b : Int32) : Nat := if !xWithin key 0 39 then 1 else if !xCbw v a b then 2 else if !xSeen v key then 3 else 0
def xfDelete (v : XS) (key : Int32) : Nat := if !xWithin key 0 39 then 1 else if !xSeen v key then 2 else 0
def xfRekey (v : XS) (key to : Int32) : Nat := if !(xWithin key 0 39 && xWithin to 0 39) then 1 else if key = to then 2 else if !xSeen v key then 3 else if xSeen v to then 4 else 0
def xfStart (v : XS) (al pa : Int32) : Nat := if !(xWithin al 0 2 && xWithin pa 0 999) then 1 else if xp v = 0 then 0 else 2
def xfPace (ch lag : Int32) : Nat := if xWithin ch 1 40 && xWithin lag 0 100 then 0 else 1
def xfTick (v : XS) (lag : Int32) : Nat := if !xWithin lag 0 1000 then 1 else if xp v = 1 then 0 else 2
def xfCut (v : XS) (most : Int32) : Nat := if !xWithin most 0 1000 then 1 else if !decide (xp v = 1) || (decide (xm v < 40) || !decide (xc v ≤ most)) then 2 else 0
def xfUndo (v : XS) : Nat := if xp v = 2 then 0 else 1
def xfGive (v : XS) : Nat := if xp v = 1 then 0 else 1
def xfKey (key : Int32) : Nat := if xWithin key 0 39 then 0 else 1
def xfCol (col : Int32) : Nat := if xWithin col 0 2 then 0 else 1
def xfShadow (key col : Int32) : Nat := if xWithin key 0 39 && xWithin col 0 2 then 0 else 1
def xRekey (v : XS) (key to : Int32) : XS := xFollow (xFollow (xPut (xPut v to (xA v key.toNatClampNeg) (xB v key.toNatClampNeg)) key (-1) (-1)) (kMin key to)) (kMax key to)
def xStart (v : XS) (al pa : Int32) : XS := xUp (xUm (xUq (xUt v al) pa) 0) 1
end
section
set_option maxHeartbeats 4000000 in
set_option maxRecDepth 100000 in
theorem kX0_endChange (l : Launch) (D : va_G) (ca : Nat → ClassId) (ad : Nat → Nat) (v : XS) : CM l yX0_endChange cX0_endChange 5 none (KR 1 23) D ca (xw ad ca v) [.ref (ad 0)] none (xw ad ca (xEnd v)) := by
  refine CM.of (by decide) (Nat.le_of_ble_eq_true rfl) ?_
  intro p e s m below meth c A ls cx hml hr hlk hI hl
  have hl : lv_has ls 5 [(0, .ref (ad 0))] := hl
  refine lv_aload_n cx.1 cx.2.1 dX0_endChange_0 rfl (lv_at hl 0 rfl) ?_
  refine xg_2 cx hI dX0_endChange_1 ?_
  refine lv_astore_n (lv' := [(1, .ref (ad 3)), (0, .ref (ad 0))]) cx.1 cx.2.1 dX0_endChange_4 rfl hl (by decide) rfl (fun ls hl => ?_)
  refine lv_aload_n cx.1 cx.2.1 dX0_endChange_5 rfl (lv_at hl 0 rfl) ?_
  refine xl_cols cx hI dX0_endChange_6 ?_
  refine lv_istore_n (lv' := [(2, .int 3), (1, .ref (ad 3)), (0, .ref (ad 0))]) cx.1 cx.2.1 dX0_endChange_7 rfl hl (by decide) rfl (fun ls hl => ?_)
  refine lv_iconst (v := 0) cx.1 cx.2.1 dX0_endChange_8 (by decide) ?_
  refine lv_istore_n (lv' := [(3, .int 0), (2, .int 3), (1, .ref (ad 3)), (0, .ref (ad 0))]) cx.1 cx.2.1 dX0_endChange_9 rfl hl (by decide) rfl (fun ls hl => ?_)
  refine k_loop 3 (fun i => (xw ad ca (xClr v i))) (fun i => [(3, .int (nI i)), (2, .int 3), (1, .ref (ad 3)), (0, .ref (ad 0))]) hI (lv_sub hl [0, 1, 2, 3] rfl) (fun H locs ls hI hl => ?_) (fun i hi H locs ls hI hl ih => ?_)
  · have hI : KI D A (xw ad ca (xClr v 3)) s.heap H locs := hI
    have hl : lv_has ls 5 [(3, .int (nI 3)), (2, .int 3), (1, .ref (ad 3)), (0, .ref (ad 0))] := hl
    refine lv_iload_n cx.1 cx.2.1 dX0_endChange_10 rfl (lv_at hl 0 rfl) ?_
    refine lv_iload_n cx.1 cx.2.1 dX0_endChange_11 rfl (lv_at hl 1 rfl) ?_
    refine lv_icmp_ge (tgt := 32) cx.1 cx.2.1 dX0_endChange_12 (by decide) (fun _ => ?_) (fun h9 => absurd (by decide : (3 : Int32) ≤ nI 3) h9)
    refine lv_iconst (v := 0) cx.1 cx.2.1 dX0_endChange_32 (by decide) ?_
    refine lv_istore_n (lv' := [(1, .int 0), (3, .int (nI 3)), (2, .int 3), (0, .ref (ad 0))]) cx.1 cx.2.1 dX0_endChange_33 rfl hl (by decide) rfl (fun ls hl => ?_)
    refine k_loop 40 (fun i => (xw ad ca (xUnr (xClr v 3) i))) (fun i => [(1, .int (nI i)), (0, .ref (ad 0))]) hI (lv_sub hl [0, 3] rfl) (fun H locs ls hI hl => ?_) (fun i hi H locs ls hI hl ih => ?_)
    · have hI : KI D A (xw ad ca (xUnr (xClr v 3) 40)) s.heap H locs := hI
      have hl : lv_has ls 5 [(1, .int (nI 40)), (0, .ref (ad 0))] := hl
      refine lv_iload_n cx.1 cx.2.1 dX0_endChange_34 rfl (lv_at hl 0 rfl) ?_
      refine lv_bipush (v := 40) cx.1 cx.2.1 dX0_endChange_35 (by decide) ?_
      refine lv_icmp_ge (tgt := 53) cx.1 cx.2.1 dX0_endChange_37 (by decide) (fun _ => ?_) (fun h9 => absurd (by decide : (40 : Int32) ≤ nI 40) h9)
      refine lv_aload_n cx.1 cx.2.1 dX0_endChange_53 rfl (lv_at hl 1 rfl) ?_
      refine lv_iconst (v := 0) cx.1 cx.2.1 dX0_endChange_54 (by decide) ?_
      refine xp_5 cx hI dX0_endChange_55 (fun H locs hI => ?_)
      refine lv_aload_n cx.1 cx.2.1 dX0_endChange_58 rfl (lv_at hl 1 rfl) ?_
      refine lv_iconst (v := 0) cx.1 cx.2.1 dX0_endChange_59 (by decide) ?_
      refine xp_6 cx hI dX0_endChange_60 (fun H locs hI => ?_)
      exact ke_v cx hr hlk hI (Nat.zero_le _) (Nat.zero_le _) dX0_endChange_63 rfl (congrArg (xw ad ca) (by simp [xEnd]))
    · have hI : KI D A (xw ad ca (xUnr (xClr v 3) i)) s.heap H locs := hI
      have hl : lv_has ls 5 [(1, .int (nI i)), (0, .ref (ad 0))] := hl
      refine lv_iload_n cx.1 cx.2.1 dX0_endChange_34 rfl (lv_at hl 0 rfl) ?_
      refine lv_bipush (v := 40) cx.1 cx.2.1 dX0_endChange_35 (by decide) ?_
      refine lv_icmp_ge (tgt := 53) cx.1 cx.2.1 dX0_endChange_37 (by decide) (fun h9 => absurd h9 (nI_ge hi (by decide))) (fun _ => ?_)
      refine lv_aload_n cx.1 cx.2.1 dX0_endChange_40 rfl (lv_at hl 1 rfl) ?_
      refine xg_3 cx hI dX0_endChange_41 ?_
      refine lv_iload_n cx.1 cx.2.1 dX0_endChange_44 rfl (lv_at hl 0 rfl) ?_
      refine lv_iconst (v := 0) cx.1 cx.2.1 dX0_endChange_45 (by decide) ?_
      refine xs_R cx hI (vp_in_nI hi (by decide)) dX0_endChange_46 (fun H locs hI => ?_)
      refine lv_iinc (v := nI (i + 1)) (lv' := [(1, .int (nI (i + 1))), (0, .ref (ad 0))]) cx.1 cx.2.1 dX0_endChange_47 hl (k := 0) rfl (nI_1 i) (by decide) rfl (fun ls hl => ?_)
      refine lv_goto (tgt := 34) cx.1 cx.2.1 dX0_endChange_50 (by decide) ?_
      refine ih _ _ _ ?_ ?_
      · show KI D A (xw ad ca (xUnr (xClr v 3) (i + 1))) s.heap _ _
        rw [show xUnr (xClr v 3) (i + 1) = xUR (xUnr (xClr v 3) i) (upd (xR (xUnr (xClr v 3) i)) (nI i).toNatClampNeg (vp_nar .boolean 0)) from rfl]
        exact hI
      · show lv_has _ _ [(1, .int (nI (i + 1))), (0, .ref (ad 0))]
        exact lv_sub hl [0, 1] rfl
  · have hI : KI D A (xw ad ca (xClr v i)) s.heap H locs := hI
    have hl : lv_has ls 5 [(3, .int (nI i)), (2, .int 3), (1, .ref (ad 3)), (0, .ref (ad 0))] := hl
    refine lv_iload_n cx.1 cx.2.1 dX0_endChange_10 rfl (lv_at hl 0 rfl) ?_
    refine lv_iload_n cx.1 cx.2.1 dX0_endChange_11 rfl (lv_at hl 1 rfl) ?_
    refine lv_icmp_ge (tgt := 32) cx.1 cx.2.1 dX0_endChange_12 (by decide) (fun h9 => absurd h9 (nI_ge hi (by decide))) (fun _ => ?_)
    refine lv_aload_n cx.1 cx.2.1 dX0_endChange_15 rfl (lv_at hl 2 rfl) ?_
    refine lv_iload_n cx.1 cx.2.1 dX0_endChange_16 rfl (lv_at hl 0 rfl) ?_
    refine xa_cols cx hI (vp_in_nI hi (by decide)) dX0_endChange_17 ?_
    refine lv_astore (lv' := [(4, .ref (ad (4 + (nI i).toNatClampNeg))), (3, .int (nI i)), (2, .int 3), (1, .ref (ad 3)), (0, .ref (ad 0))]) cx.1 cx.2.1 dX0_endChange_18 hl (by decide) rfl (fun ls hl => ?_)
    refine lv_aload cx.1 cx.2.1 dX0_endChange_20 (lv_at hl 0 rfl) ?_
    refine lv_iconst (v := (-1)) cx.1 cx.2.1 dX0_endChange_22 (by decide) ?_
    refine k_fillcol cx (hl.1.trans hml.symm) hI (vp_in_nI hi (by decide)) wk_25 ⟨Nat.le_of_ble_eq_true rfl, Nat.le_of_ble_eq_true rfl⟩ (Nat.le_of_ble_eq_true rfl) dX0_endChange_23 ⟨Nat.zero_le _, Nat.zero_le _⟩ (fun H locs hI => ?_)
    refine lv_iinc (v := nI (i + 1)) (lv' := [(3, .int (nI (i + 1))), (4, .ref (ad (4 + (nI i).toNatClampNeg))), (2, .int 3), (1, .ref (ad 3)), (0, .ref (ad 0))]) cx.1 cx.2.1 dX0_endChange_26 hl (k := 1) rfl (nI_1 i) (by decide) rfl (fun ls hl => ?_)
    refine lv_goto (tgt := 10) cx.1 cx.2.1 dX0_endChange_29 (by decide) ?_
    refine ih _ _ _ ?_ ?_
    · show KI D A (xw ad ca (xClr v (i + 1))) s.heap _ _
      rw [show xClr v (i + 1) = xUC (xClr v i) (nI i).toNatClampNeg (kFill 40 (-1) (xC (xClr v i) (nI i).toNatClampNeg)) from rfl]
      exact hI
    · show lv_has _ _ [(3, .int (nI (i + 1))), (2, .int 3), (1, .ref (ad 3)), (0, .ref (ad 0))]
      exact lv_sub hl [0, 2, 3, 4] rfl
set_option maxHeartbeats 4000000 in
set_option maxRecDepth 100000 in
theorem kX0_removeRowsWithoutShadow (l : Launch) (D : va_G) (ca : Nat → ClassId) (ad : Nat → Nat) (v : XS) : CM l yX0_removeRowsWithoutShadow cX0_removeRowsWithoutShadow 3 (some .int) (KR 2 44) D ca (xw ad ca v) [.ref (ad 0)] (some (.int (xRemN v 40))) (xw ad ca (xRem v 40)) := by
  refine CM.of (by decide) (Nat.le_of_ble_eq_true rfl) ?_
  intro p e s m below meth c A ls cx hml hr hlk hI hl
  have hl : lv_has ls 3 [(0, .ref (ad 0))] := hl
  refine lv_iconst (v := 0) cx.1 cx.2.1 dX0_removeRowsWithoutShadow_0 (by decide) ?_
  refine lv_istore_n (lv' := [(1, .int 0), (0, .ref (ad 0))]) cx.1 cx.2.1 dX0_removeRowsWithoutShadow_1 rfl hl (by decide) rfl (fun ls hl => ?_)
  refine lv_iconst (v := 0) cx.1 cx.2.1 dX0_removeRowsWithoutShadow_2 (by decide) ?_
  refine lv_istore_n (lv' := [(2, .int 0), (1, .int 0), (0, .ref (ad 0))]) cx.1 cx.2.1 dX0_removeRowsWithoutShadow_3 rfl hl (by decide) rfl (fun ls hl => ?_)
  refine k_loop 40 (fun i => (xw ad ca (xRem v i))) (fun i => [(2, .int (nI i)), (1, .int (xRemN v i)), (0, .ref (ad 0))]) hI (lv_sub hl [0, 1, 2] rfl) (fun H locs ls hI hl => ?_) (fun i hi H locs ls hI hl ih => ?_)
  · have hI : KI D A (xw ad ca (xRem v 40)) s.heap H locs := hI
    have hl : lv_has ls 3 [(2, .int (nI 40)), (1, .int (xRemN v 40)), (0, .ref (ad 0))] := hl
    refine lv_iload_n cx.1 cx.2.1 dX0_removeRowsWithoutShadow_4 rfl (lv_at hl 0 rfl) ?_
    refine lv_bipush (v := 40) cx.1 cx.2.1 dX0_removeRowsWithoutShadow_5 (by decide) ?_
    refine lv_icmp_ge (tgt := 40) cx.1 cx.2.1 dX0_removeRowsWithoutShadow_7 (by decide) (fun _ => ?_) (fun h9 => absurd (by decide : (40 : Int32) ≤ nI 40) h9)
    refine lv_iload_n cx.1 cx.2.1 dX0_removeRowsWithoutShadow_40 rfl (lv_at hl 1 rfl) ?_
    exact ke_i cx hr hlk hI (Nat.zero_le _) (Nat.zero_le _) dX0_removeRowsWithoutShadow_41 rfl rfl
  · have hI : KI D A (xw ad ca (xRem v i)) s.heap H locs := hI
    have hl : lv_has ls 3 [(2, .int (nI i)), (1, .int (xRemN v i)), (0, .ref (ad 0))] := hl
    refine lv_iload_n cx.1 cx.2.1 dX0_removeRowsWithoutShadow_4 rfl (lv_at hl 0 rfl) ?_
    refine lv_bipush (v := 40) cx.1 cx.2.1 dX0_removeRowsWithoutShadow_5 (by decide) ?_
    refine lv_icmp_ge (tgt := 40) cx.1 cx.2.1 dX0_removeRowsWithoutShadow_7 (by decide) (fun h9 => absurd h9 (nI_ge hi (by decide))) (fun _ => ?_)
    refine lv_aload_n cx.1 cx.2.1 dX0_removeRowsWithoutShadow_10 rfl (lv_at hl 2 rfl) ?_
    refine lv_iload_n cx.1 cx.2.1 dX0_removeRowsWithoutShadow_11 rfl (lv_at hl 0 rfl) ?_
    refine xc_i 1 cx (hl.1.trans hml.symm) (kX0_isInOld l D ca ad (xRem v i) (nI i) (vp_in_nI hi (by decide))) hI wk_191 wk_188 wk_190 wq_4 ⟨rfl, by decide +kernel⟩ rfl ⟨rfl, rfl⟩ ⟨Nat.le_of_ble_eq_true rfl, Nat.le_of_ble_eq_true rfl⟩ (Nat.le_of_ble_eq_true rfl) dX0_removeRowsWithoutShadow_12 ⟨Nat.zero_le _, Nat.zero_le _⟩ rfl (fun H locs hI => ?_)
    refine kb_eq (tgt := 34) cx dX0_removeRowsWithoutShadow_15 (by decide) (fun c_3 => ?_) (fun c_3 => ?_)
    · refine lv_iinc (v := nI (i + 1)) (lv' := [(2, .int (nI (i + 1))), (1, .int (xRemN v i)), (0, .ref (ad 0))]) cx.1 cx.2.1 dX0_removeRowsWithoutShadow_34 hl (k := 0) rfl (nI_1 i) (by decide) rfl (fun ls hl => ?_)
      refine lv_goto (tgt := 4) cx.1 cx.2.1 dX0_removeRowsWithoutShadow_37 (by decide) ?_
      refine ih _ _ _ ?_ ?_
      · show KI D A (xw ad ca (xRem v (i + 1))) s.heap _ _
        rw [show xRem v (i + 1) = xRem v i from (by simp [c_3, xRem, xGo])]
        exact hI
      · show lv_has _ _ [(2, .int (nI (i + 1))), (1, .int (xRemN v (i + 1))), (0, .ref (ad 0))]
        rw [show xRemN v (i + 1) = xRemN v i from (by simp [c_3, xRemN, xGo, b2i])]
        exact lv_sub hl [0, 1, 2] rfl
    · refine lv_aload_n cx.1 cx.2.1 dX0_removeRowsWithoutShadow_18 rfl (lv_at hl 2 rfl) ?_
      refine lv_iload_n cx.1 cx.2.1 dX0_removeRowsWithoutShadow_19 rfl (lv_at hl 0 rfl) ?_
      refine xc_i 1 cx (hl.1.trans hml.symm) (kX0_isInShadow l D ca ad (xRem v i) (nI i) (vp_in_nI hi (by decide))) hI wk_175 wk_172 wk_174 wq_1 ⟨rfl, by decide +kernel⟩ rfl ⟨rfl, rfl⟩ ⟨Nat.le_of_ble_eq_true rfl, Nat.le_of_ble_eq_true rfl⟩ (Nat.le_of_ble_eq_true rfl) dX0_removeRowsWithoutShadow_20 ⟨Nat.zero_le _, Nat.zero_le _⟩ rfl (fun H locs hI => ?_)
      refine kb_ne (tgt := 34) cx dX0_removeRowsWithoutShadow_23 (by decide) (fun c_4 => ?_) (fun c_4 => ?_)
      · refine lv_iinc (v := nI (i + 1)) (lv' := [(2, .int (nI (i + 1))), (1, .int (xRemN v i)), (0, .ref (ad 0))]) cx.1 cx.2.1 dX0_removeRowsWithoutShadow_34 hl (k := 0) rfl (nI_1 i) (by decide) rfl (fun ls hl => ?_)
        refine lv_goto (tgt := 4) cx.1 cx.2.1 dX0_removeRowsWithoutShadow_37 (by decide) ?_
        refine ih _ _ _ ?_ ?_
        · show KI D A (xw ad ca (xRem v (i + 1))) s.heap _ _
          rw [show xRem v (i + 1) = xRem v i from (by simp [c_3, c_4, xRem, xGo])]
          exact hI
        · show lv_has _ _ [(2, .int (nI (i + 1))), (1, .int (xRemN v (i + 1))), (0, .ref (ad 0))]
          rw [show xRemN v (i + 1) = xRemN v i from (by simp [c_3, c_4, xRemN, xGo, b2i])]
          exact lv_sub hl [0, 1, 2] rfl
      · refine lv_aload_n cx.1 cx.2.1 dX0_removeRowsWithoutShadow_26 rfl (lv_at hl 2 rfl) ?_
        refine lv_iload_n cx.1 cx.2.1 dX0_removeRowsWithoutShadow_27 rfl (lv_at hl 0 rfl) ?_
        refine xc_v 1 cx (hl.1.trans hml.symm) (kX0_removeRow l D ca ad (xRem v i) (nI i) (vp_in_nI hi (by decide))) hI wk_311 wk_308 wk_310 wq_15 ⟨rfl, by decide +kernel⟩ rfl ⟨rfl, rfl⟩ ⟨Nat.le_of_ble_eq_true rfl, Nat.le_of_ble_eq_true rfl⟩ (Nat.le_of_ble_eq_true rfl) dX0_removeRowsWithoutShadow_28 ⟨Nat.zero_le _, Nat.zero_le _⟩ rfl (fun H locs hI => ?_)
        refine lv_iinc (v := xRemN v i + 1) (lv' := [(1, .int (xRemN v i + 1)), (2, .int (nI i)), (0, .ref (ad 0))]) cx.1 cx.2.1 dX0_removeRowsWithoutShadow_31 hl (k := 1) rfl rfl (by decide) rfl (fun ls hl => ?_)
        refine lv_iinc (v := nI (i + 1)) (lv' := [(2, .int (nI (i + 1))), (1, .int (xRemN v i + 1)), (0, .ref (ad 0))]) cx.1 cx.2.1 dX0_removeRowsWithoutShadow_34 hl (k := 1) rfl (nI_1 i) (by decide) rfl (fun ls hl => ?_)
        refine lv_goto (tgt := 4) cx.1 cx.2.1 dX0_removeRowsWithoutShadow_37 (by decide) ?_
        refine ih _ _ _ ?_ ?_
        · show KI D A (xw ad ca (xRem v (i + 1))) s.heap _ _
          rw [show xRem v (i + 1) = xPut (xRem v i) (nI i) (-1) (-1) from (by simp [c_3, c_4, xRem, xGo])]
          exact hI
        · show lv_has _ _ [(2, .int (nI (i + 1))), (1, .int (xRemN v (i + 1))), (0, .ref (ad 0))]
          rw [show xRemN v (i + 1) = xRemN v i + 1 from (by simp [c_3, c_4, xRemN, xGo, b2i])]
          exact lv_sub hl [0, 1, 2] rfl
set_option maxHeartbeats 4000000 in
set_option maxRecDepth 100000 in
theorem kX0_copyChunk (l : Launch) (D : va_G) (ca : Nat → ClassId) (ad : Nat → Nat) (v : XS) (mk n : Nat) (hm : xm v = nI mk) (he : xCopyE v = nI (mk + n)) (hle : mk + n ≤ 40) : CM l yX0_copyChunk cX0_copyChunk 4 (some .int) (KR 5 108) D ca (xw ad ca v) [.ref (ad 0)] (some (.int (xCopyE v - xm v))) (xw ad ca (xCopy v mk n)) := by
  refine CM.of (by decide) (Nat.le_of_ble_eq_true rfl) ?_
  intro p e s m below meth c A ls cx hml hr hlk hI hl
  have hl : lv_has ls 4 [(0, .ref (ad 0))] := hl
  refine lv_aload_n cx.1 cx.2.1 dX0_copyChunk_0 rfl (lv_at hl 0 rfl) ?_
  refine xg_7 cx hI dX0_copyChunk_1 ?_
  refine lv_aload_n cx.1 cx.2.1 dX0_copyChunk_4 rfl (lv_at hl 0 rfl) ?_
  refine xg_10 cx hI dX0_copyChunk_5 ?_
  refine lv_iadd cx.1 cx.2.1 dX0_copyChunk_8 ?_
  refine lv_bipush (v := 40) cx.1 cx.2.1 dX0_copyChunk_9 (by decide) ?_
  refine k_mmin cx (hml.trans hl.1.symm) (cx.2.2.2.1 _ wk_312) (Nat.le_of_ble_eq_true rfl) (Nat.le_of_ble_eq_true rfl) (Nat.zero_le _) (Nat.zero_le _) dX0_copyChunk_11 ?_
  refine k_top (y := kMin ((xm v) + (xk v)) 40) rfl ?_
  refine k_top (y := xCopyE v) rfl ?_
  refine lv_istore_n (lv' := [(1, .int (xCopyE v)), (0, .ref (ad 0))]) cx.1 cx.2.1 dX0_copyChunk_14 rfl hl (by decide) rfl (fun ls hl => ?_)
  refine lv_iload_n cx.1 cx.2.1 dX0_copyChunk_15 rfl (lv_at hl 0 rfl) ?_
  refine lv_aload_n cx.1 cx.2.1 dX0_copyChunk_16 rfl (lv_at hl 1 rfl) ?_
  refine xg_7 cx hI dX0_copyChunk_17 ?_
  refine lv_isub cx.1 cx.2.1 dX0_copyChunk_20 ?_
  refine lv_istore_n (lv' := [(2, .int ((xCopyE v) - (xm v))), (1, .int (xCopyE v)), (0, .ref (ad 0))]) cx.1 cx.2.1 dX0_copyChunk_21 rfl hl (by decide) rfl (fun ls hl => ?_)
  refine lv_aload_n cx.1 cx.2.1 dX0_copyChunk_22 rfl (lv_at hl 2 rfl) ?_
  refine xg_7 cx hI dX0_copyChunk_23 ?_
  refine lv_istore_n (lv' := [(3, .int (xm v)), (2, .int ((xCopyE v) - (xm v))), (1, .int (xCopyE v)), (0, .ref (ad 0))]) cx.1 cx.2.1 dX0_copyChunk_26 rfl hl (by decide) rfl (fun ls hl => ?_)
  refine k_loop n (fun i => (xw ad ca (xCopyL v mk i))) (fun i => [(3, .int (nI (mk + i))), (1, .int (nI (mk + n))), (2, .int (xCopyE v - xm v)), (0, .ref (ad 0))]) hI (by show lv_has _ _ [(3, .int (nI (mk + 0))), (1, .int (nI (mk + n))), (2, .int (xCopyE v - xm v)), (0, .ref (ad 0))]; rw [show nI (mk + 0) = xm v from hm.symm, ← he]; exact lv_sub hl [0, 2, 1, 3] rfl) (fun H locs ls hI hl => ?_) (fun i hi H locs ls hI hl ih => ?_)
  · have hI : KI D A (xw ad ca (xCopyL v mk n)) s.heap H locs := hI
    have hl : lv_has ls 4 [(3, .int (nI (mk + n))), (1, .int (nI (mk + n))), (2, .int (xCopyE v - xm v)), (0, .ref (ad 0))] := hl
    refine lv_iload_n cx.1 cx.2.1 dX0_copyChunk_27 rfl (lv_at hl 0 rfl) ?_
    refine lv_iload_n cx.1 cx.2.1 dX0_copyChunk_28 rfl (lv_at hl 1 rfl) ?_
    refine lv_icmp_ge (tgt := 43) cx.1 cx.2.1 dX0_copyChunk_29 (by decide) (fun _ => ?_) (fun h9 => absurd (Int32.le_refl _) h9)
    refine lv_aload_n cx.1 cx.2.1 dX0_copyChunk_43 rfl (lv_at hl 3 rfl) ?_
    refine lv_iload_n cx.1 cx.2.1 dX0_copyChunk_44 rfl (lv_at hl 1 rfl) ?_
    refine xp_7 cx hI dX0_copyChunk_45 (fun H locs hI => ?_)
    refine lv_iload_n cx.1 cx.2.1 dX0_copyChunk_48 rfl (lv_at hl 2 rfl) ?_
    exact ke_i cx hr hlk hI (Nat.zero_le _) (Nat.zero_le _) dX0_copyChunk_49 rfl (congrArg (xw ad ca) (by simp [xCopy, he]))
  · have hI : KI D A (xw ad ca (xCopyL v mk i)) s.heap H locs := hI
    have hl : lv_has ls 4 [(3, .int (nI (mk + i))), (1, .int (nI (mk + n))), (2, .int (xCopyE v - xm v)), (0, .ref (ad 0))] := hl
    refine lv_iload_n cx.1 cx.2.1 dX0_copyChunk_27 rfl (lv_at hl 0 rfl) ?_
    refine lv_iload_n cx.1 cx.2.1 dX0_copyChunk_28 rfl (lv_at hl 1 rfl) ?_
    refine lv_icmp_ge (tgt := 43) cx.1 cx.2.1 dX0_copyChunk_29 (by decide) (fun h9 => absurd h9 (nI_ge (show mk + i < mk + n by omega) (by omega))) (fun _ => ?_)
    refine lv_aload_n cx.1 cx.2.1 dX0_copyChunk_32 rfl (lv_at hl 3 rfl) ?_
    refine lv_iload_n cx.1 cx.2.1 dX0_copyChunk_33 rfl (lv_at hl 0 rfl) ?_
    refine xc_v 1 cx (hl.1.trans hml.symm) (kX0_bring l D ca ad (xCopyL v mk i) (nI (mk + i)) (vp_in_nI (show mk + i < 40 by omega) (by decide))) hI wk_280 wk_277 wk_279 wq_14 ⟨rfl, by decide +kernel⟩ rfl ⟨rfl, rfl⟩ ⟨Nat.le_of_ble_eq_true rfl, Nat.le_of_ble_eq_true rfl⟩ (Nat.le_of_ble_eq_true rfl) dX0_copyChunk_34 ⟨Nat.zero_le _, Nat.zero_le _⟩ rfl (fun H locs hI => ?_)
    refine lv_iinc (v := nI (mk + (i + 1))) (lv' := [(3, .int (nI (mk + (i + 1)))), (1, .int (nI (mk + n))), (2, .int (xCopyE v - xm v)), (0, .ref (ad 0))]) cx.1 cx.2.1 dX0_copyChunk_37 hl (k := 0) rfl (nI_1 (mk + i)) (by decide) rfl (fun ls hl => ?_)
    refine lv_goto (tgt := 27) cx.1 cx.2.1 dX0_copyChunk_40 (by decide) ?_
    refine ih _ _ _ ?_ ?_
    · show KI D A (xw ad ca (xCopyL v mk (i + 1))) s.heap _ _
      rw [show xCopyL v mk (i + 1) = xBring (xCopyL v mk i) (nI (mk + i)) from rfl]
      exact hI
    · show lv_has _ _ [(3, .int (nI (mk + (i + 1)))), (1, .int (nI (mk + n))), (2, .int (xCopyE v - xm v)), (0, .ref (ad 0))]
      exact lv_sub hl [0, 1, 2, 3] rfl
set_option maxHeartbeats 4000000 in
set_option maxRecDepth 100000 in
theorem kX0_playNotes (l : Launch) (D : va_G) (ca : Nat → ClassId) (ad : Nat → Nat) (v : XS) (count : Int32) (cn n : Nat) (hc : count = nI cn) (hn : xc v = nI n) (hcn : cn ≤ n) (hn2 : n ≤ 1024) (hN : ∀ j, j < cn → vp_in (xN v (nI j).toNatClampNeg) 40) : CM l yX0_playNotes cX0_playNotes 3 (some .int) (KR 5 108) D ca (xw ad ca v) [.ref (ad 0), .int count] (some (.int (nI cn))) (xw ad ca (xPlay v cn)) := by
  refine CM.of (by decide) (Nat.le_of_ble_eq_true rfl) ?_
  intro p e s m below meth c A ls cx hml hr hlk hI hl
  subst hc
  have hl : lv_has ls 3 [(0, .ref (ad 0)), (1, .int (nI cn))] := hl
  refine lv_iconst (v := 0) cx.1 cx.2.1 dX0_playNotes_0 (by decide) ?_
  refine lv_istore_n (lv' := [(2, .int 0), (0, .ref (ad 0)), (1, .int (nI cn))]) cx.1 cx.2.1 dX0_playNotes_1 rfl hl (by decide) rfl (fun ls hl => ?_)
  refine k_loop cn (fun i => (xw ad ca (xPlayL v i))) (fun i => [(2, .int (nI i)), (1, .int (nI cn)), (0, .ref (ad 0))]) hI (lv_sub hl [0, 2, 1] rfl) (fun H locs ls hI hl => ?_) (fun i hi H locs ls hI hl ih => ?_)
  · have hI : KI D A (xw ad ca (xPlayL v cn)) s.heap H locs := hI
    have hl : lv_has ls 3 [(2, .int (nI cn)), (1, .int (nI cn)), (0, .ref (ad 0))] := hl
    refine lv_iload_n cx.1 cx.2.1 dX0_playNotes_2 rfl (lv_at hl 0 rfl) ?_
    refine lv_iload_n cx.1 cx.2.1 dX0_playNotes_3 rfl (lv_at hl 1 rfl) ?_
    refine lv_icmp_ge (tgt := 23) cx.1 cx.2.1 dX0_playNotes_4 (by decide) (fun _ => ?_) (fun h9 => absurd (Int32.le_refl _) h9)
    refine lv_aload_n cx.1 cx.2.1 dX0_playNotes_23 rfl (lv_at hl 2 rfl) ?_
    refine lv_dup cx.1 cx.2.1 dX0_playNotes_24 rfl ?_
    refine xg_5 cx hI dX0_playNotes_25 ?_
    refine lv_iload_n cx.1 cx.2.1 dX0_playNotes_28 rfl (lv_at hl 1 rfl) ?_
    refine lv_isub cx.1 cx.2.1 dX0_playNotes_29 ?_
    refine xp_5 cx hI dX0_playNotes_30 (fun H locs hI => ?_)
    have hI : KI D A (xw ad ca (xPlayC v cn)) s.heap _ _ := hI
    have hq : xc (xPlayC v cn) = nI (n - cn) := by show xc (xPlayL v cn) - nI cn = _; rw [xPlayL_c, hn, pk_sub hcn]
    refine lv_aload_n cx.1 cx.2.1 dX0_playNotes_33 rfl (lv_at hl 2 rfl) ?_
    refine xg_4 cx hI dX0_playNotes_34 ?_
    refine lv_iload_n cx.1 cx.2.1 dX0_playNotes_37 rfl (lv_at hl 1 rfl) ?_
    refine lv_aload_n cx.1 cx.2.1 dX0_playNotes_38 rfl (lv_at hl 2 rfl) ?_
    refine xg_4 cx hI dX0_playNotes_39 ?_
    refine lv_iconst (v := 0) cx.1 cx.2.1 dX0_playNotes_42 (by decide) ?_
    refine lv_aload_n cx.1 cx.2.1 dX0_playNotes_43 rfl (lv_at hl 2 rfl) ?_
    refine xg_5 cx hI dX0_playNotes_44 ?_
    refine k_copyN cx (hl.1.trans hml.symm) hI wk_340 (nI_pos (by omega)) (by decide) (by rw [hq]; exact nI_pos (by omega)) (by rw [hq, nI_clamp (by omega), nI_clamp (by omega)]; omega) (by rw [hq, nI_clamp (by omega)]; show 0 + _ ≤ _; omega) (Nat.le_of_ble_eq_true rfl) (Nat.le_of_ble_eq_true rfl) dX0_playNotes_47 (fun H locs hI => ?_)
    refine lv_iload_n cx.1 cx.2.1 dX0_playNotes_50 rfl (lv_at hl 1 rfl) ?_
    exact ke_i cx hr hlk hI (Nat.zero_le _) (Nat.zero_le _) dX0_playNotes_51 rfl (congrArg (xw ad ca) (by simp [xPlay]))
  · have hI : KI D A (xw ad ca (xPlayL v i)) s.heap H locs := hI
    have hl : lv_has ls 3 [(2, .int (nI i)), (1, .int (nI cn)), (0, .ref (ad 0))] := hl
    refine lv_iload_n cx.1 cx.2.1 dX0_playNotes_2 rfl (lv_at hl 0 rfl) ?_
    refine lv_iload_n cx.1 cx.2.1 dX0_playNotes_3 rfl (lv_at hl 1 rfl) ?_
    refine lv_icmp_ge (tgt := 23) cx.1 cx.2.1 dX0_playNotes_4 (by decide) (fun h9 => absurd h9 (nI_ge hi (by omega))) (fun _ => ?_)
    refine lv_aload_n cx.1 cx.2.1 dX0_playNotes_7 rfl (lv_at hl 2 rfl) ?_
    refine lv_aload_n cx.1 cx.2.1 dX0_playNotes_8 rfl (lv_at hl 2 rfl) ?_
    refine xg_4 cx hI dX0_playNotes_9 ?_
    refine lv_iload_n cx.1 cx.2.1 dX0_playNotes_12 rfl (lv_at hl 0 rfl) ?_
    refine xa_N cx hI (vp_in_nI (show i < 1024 by omega) (by decide)) dX0_playNotes_13 ?_
    refine xc_v 1 cx (hl.1.trans hml.symm) (kX0_bring l D ca ad (xPlayL v i) (xN (xPlayL v i) (nI i).toNatClampNeg) (by rw [xPlayL_N]; exact hN i hi)) hI wk_280 wk_277 wk_279 wq_14 ⟨rfl, by decide +kernel⟩ rfl ⟨rfl, rfl⟩ ⟨Nat.le_of_ble_eq_true rfl, Nat.le_of_ble_eq_true rfl⟩ (Nat.le_of_ble_eq_true rfl) dX0_playNotes_14 ⟨Nat.zero_le _, Nat.zero_le _⟩ rfl (fun H locs hI => ?_)
    refine lv_iinc (v := nI (i + 1)) (lv' := [(2, .int (nI (i + 1))), (1, .int (nI cn)), (0, .ref (ad 0))]) cx.1 cx.2.1 dX0_playNotes_17 hl (k := 0) rfl (nI_1 i) (by decide) rfl (fun ls hl => ?_)
    refine lv_goto (tgt := 2) cx.1 cx.2.1 dX0_playNotes_20 (by decide) ?_
    refine ih _ _ _ ?_ ?_
    · show KI D A (xw ad ca (xPlayL v (i + 1))) s.heap _ _
      rw [show xPlayL v (i + 1) = xBring (xPlayL v i) (xN (xPlayL v i) (nI i).toNatClampNeg) from rfl]
      exact hI
    · show lv_has _ _ [(2, .int (nI (i + 1))), (1, .int (nI cn)), (0, .ref (ad 0))]
      exact lv_sub hl [0, 1, 2] rfl
end
section
set_option maxHeartbeats 4000000 in
set_option maxRecDepth 100000 in
theorem kX0_insert (l : Launch) (D : va_G) (ca : Nat → ClassId) (ad : Nat → Nat) (v : XS) (key a b : Int32) (h0 : ¬ xc v < 0) (hlS : l.stackTraces = false) : CX l yX0_insert cX0_insert 4 none (KR1 6 129) D ca (xw ad ca v) [.ref (ad 0), .int key, .int a, .int b] (xfInsert v key a b = 0) none (xw ad ca (xFollow (xPut v key a b) key)) (fun E => (xfInsert v key a b = 1 ∧ E = "java/lang/IndexOutOfBoundsException") ∨ (xfInsert v key a b = 2 ∧ E = "java/lang/IllegalArgumentException") ∨ (xfInsert v key a b = 3 ∧ E = "java/lang/IllegalStateException")) := by
  refine CX.of (by decide) (Nat.le_of_ble_eq_true rfl) ?_
  intro p e s m below meth c A ls cx hml hr hlk htab hE hI hl
  have hl : lv_has ls 4 [(0, .ref (ad 0)), (1, .int key), (2, .int a), (3, .int b)] := hl
  refine lv_iload_n cx.1 cx.2.1 dX0_insert_0 rfl (lv_at hl 1 rfl) ?_
  refine ks_i 1 cx (hl.1.trans hml.symm) (kX0_isKey l D ca key) hI wk_89 wk_87 wk_88 wk_1 ⟨by decide, by decide, by decide +kernel⟩ rfl ⟨rfl, rfl⟩ ⟨Nat.le_of_ble_eq_true rfl, Nat.le_of_ble_eq_true rfl⟩ (Nat.le_of_ble_eq_true rfl) dX0_insert_1 ⟨Nat.zero_le _, Nat.zero_le _⟩ rfl (fun H locs hI => ?_)
  refine kb_ne (tgt := 17) cx dX0_insert_4 (by decide) (fun c_1 => ?_) (fun c_1 => ?_)
  · have hk : vp_in key 40 := xKey_in c_1
    refine lv_aload_n cx.1 cx.2.1 dX0_insert_17 rfl (lv_at hl 0 rfl) ?_
    refine lv_iload_n cx.1 cx.2.1 dX0_insert_18 rfl (lv_at hl 2 rfl) ?_
    refine lv_iload_n cx.1 cx.2.1 dX0_insert_19 rfl (lv_at hl 3 rfl) ?_
    refine xc_i 2 cx (hl.1.trans hml.symm) (kX0_canBeWritten l D ca ad v a b) hI wk_228 wk_225 wk_227 wq_9 ⟨rfl, by decide +kernel⟩ rfl ⟨rfl, rfl⟩ ⟨Nat.le_of_ble_eq_true rfl, Nat.le_of_ble_eq_true rfl⟩ (Nat.le_of_ble_eq_true rfl) dX0_insert_20 ⟨Nat.zero_le _, Nat.zero_le _⟩ rfl (fun H locs hI => ?_)
    refine kb_ne (tgt := 36) cx dX0_insert_23 (by decide) (fun c_2 => ?_) (fun c_2 => ?_)
    · refine lv_aload_n cx.1 cx.2.1 dX0_insert_36 rfl (lv_at hl 0 rfl) ?_
      refine lv_iload_n cx.1 cx.2.1 dX0_insert_37 rfl (lv_at hl 1 rfl) ?_
      refine xc_i 1 cx (hl.1.trans hml.symm) (kX0_isSeen l D ca ad v key hk) hI wk_248 wk_245 wk_247 wq_10 ⟨rfl, by decide +kernel⟩ rfl ⟨rfl, rfl⟩ ⟨Nat.le_of_ble_eq_true rfl, Nat.le_of_ble_eq_true rfl⟩ (Nat.le_of_ble_eq_true rfl) dX0_insert_38 ⟨Nat.zero_le _, Nat.zero_le _⟩ rfl (fun H locs hI => ?_)
      refine kb_eq (tgt := 54) cx dX0_insert_41 (by decide) (fun c_3 => ?_) (fun c_3 => ?_)
      · refine lv_aload_n cx.1 cx.2.1 dX0_insert_54 rfl (lv_at hl 0 rfl) ?_
        refine lv_iload_n cx.1 cx.2.1 dX0_insert_55 rfl (lv_at hl 1 rfl) ?_
        refine lv_iload_n cx.1 cx.2.1 dX0_insert_56 rfl (lv_at hl 2 rfl) ?_
        refine lv_iload_n cx.1 cx.2.1 dX0_insert_57 rfl (lv_at hl 3 rfl) ?_
        refine xc_v 3 cx (hl.1.trans hml.symm) (kX0_putRow l D ca ad v key a b hk) hI wk_268 wk_265 wk_267 wq_11 ⟨rfl, by decide +kernel⟩ rfl ⟨rfl, rfl⟩ ⟨Nat.le_of_ble_eq_true rfl, Nat.le_of_ble_eq_true rfl⟩ (Nat.le_of_ble_eq_true rfl) dX0_insert_58 ⟨Nat.zero_le _, Nat.zero_le _⟩ rfl (fun H locs hI => ?_)
        refine lv_aload_n cx.1 cx.2.1 dX0_insert_61 rfl (lv_at hl 0 rfl) ?_
        refine lv_iload_n cx.1 cx.2.1 dX0_insert_62 rfl (lv_at hl 1 rfl) ?_
        refine xc_v 1 cx (hl.1.trans hml.symm) (kX0_followWrite l D ca ad (xPut v key a b) key hk h0) hI wk_272 wk_269 wk_271 wq_12 ⟨rfl, by decide +kernel⟩ rfl ⟨rfl, rfl⟩ ⟨Nat.le_of_ble_eq_true rfl, Nat.le_of_ble_eq_true rfl⟩ (Nat.le_of_ble_eq_true rfl) dX0_insert_63 ⟨Nat.zero_le _, Nat.zero_le _⟩ rfl (fun H locs hI => ?_)
        exact ke_x (by simp [xfInsert, c_1, c_2, c_3]) (ke_v cx hr hlk hI (Nat.zero_le _) (Nat.zero_le _) dX0_insert_66 rfl rfl)
      · exact kt_ise cx hlS hlk htab hE hI (hl.1.trans hml.symm) (show (69, "there is a row with this key") ∈ kstrs by decide) dX0_insert_44 dX0_insert_47 dX0_insert_48 dX0_insert_50 dX0_insert_53 ⟨Nat.le_of_ble_eq_true rfl, Nat.le_of_ble_eq_true rfl⟩ ⟨Nat.le_of_ble_eq_true rfl, Nat.le_of_ble_eq_true rfl⟩ (Or.inr (Or.inr (⟨(by simp [xfInsert, c_1, c_2, c_3]), rfl⟩)))
    · exact kt_iae cx hlS hlk htab hE hI (hl.1.trans hml.symm) (show (61, "a or b is out of range, or the row does not fit") ∈ kstrs by decide) dX0_insert_26 dX0_insert_29 dX0_insert_30 dX0_insert_32 dX0_insert_35 ⟨Nat.le_of_ble_eq_true rfl, Nat.le_of_ble_eq_true rfl⟩ ⟨Nat.le_of_ble_eq_true rfl, Nat.le_of_ble_eq_true rfl⟩ (Or.inr (Or.inl (⟨(by simp [xfInsert, c_1, c_2]), rfl⟩)))
  · exact kt_iob cx hlS hlk htab hE hI (hl.1.trans hml.symm) (show (50, "there is no such key") ∈ kstrs by decide) dX0_insert_7 dX0_insert_10 dX0_insert_11 dX0_insert_13 dX0_insert_16 ⟨Nat.le_of_ble_eq_true rfl, Nat.le_of_ble_eq_true rfl⟩ ⟨Nat.le_of_ble_eq_true rfl, Nat.le_of_ble_eq_true rfl⟩ (Or.inl (⟨(by simp [xfInsert, c_1]), rfl⟩))
set_option maxHeartbeats 4000000 in
set_option maxRecDepth 100000 in
theorem kX0_update (l : Launch) (D : va_G) (ca : Nat → ClassId) (ad : Nat → Nat) (v : XS) (key a b : Int32) (h0 : ¬ xc v < 0) (hlS : l.stackTraces = false) : CX l yX0_update cX0_update 4 none (KR1 6 129) D ca (xw ad ca v) [.ref (ad 0), .int key, .int a, .int b] (xfUpdate v key a b = 0) none (xw ad ca (xFollow (xPut v key a b) key)) (fun E => (xfUpdate v key a b = 1 ∧ E = "java/lang/IndexOutOfBoundsException") ∨ (xfUpdate v key a b = 2 ∧ E = "java/lang/IllegalArgumentException") ∨ (xfUpdate v key a b = 3 ∧ E = "java/util/NoSuchElementException")) := by
  refine CX.of (by decide) (Nat.le_of_ble_eq_true rfl) ?_
  intro p e s m below meth c A ls cx hml hr hlk htab hE hI hl
  have hl : lv_has ls 4 [(0, .ref (ad 0)), (1, .int key), (2, .int a), (3, .int b)] := hl
  refine lv_iload_n cx.1 cx.2.1 dX0_update_0 rfl (lv_at hl 1 rfl) ?_
  refine ks_i 1 cx (hl.1.trans hml.symm) (kX0_isKey l D ca key) hI wk_89 wk_87 wk_88 wk_1 ⟨by decide, by decide, by decide +kernel⟩ rfl ⟨rfl, rfl⟩ ⟨Nat.le_of_ble_eq_true rfl, Nat.le_of_ble_eq_true rfl⟩ (Nat.le_of_ble_eq_true rfl) dX0_update_1 ⟨Nat.zero_le _, Nat.zero_le _⟩ rfl (fun H locs hI => ?_)
  refine kb_ne (tgt := 17) cx dX0_update_4 (by decide) (fun c_1 => ?_) (fun c_1 => ?_)
  · have hk : vp_in key 40 := xKey_in c_1
    refine lv_aload_n cx.1 cx.2.1 dX0_update_17 rfl (lv_at hl 0 rfl) ?_
    refine lv_iload_n cx.1 cx.2.1 dX0_update_18 rfl (lv_at hl 2 rfl) ?_
    refine lv_iload_n cx.1 cx.2.1 dX0_update_19 rfl (lv_at hl 3 rfl) ?_
    refine xc_i 2 cx (hl.1.trans hml.symm) (kX0_canBeWritten l D ca ad v a b) hI wk_228 wk_225 wk_227 wq_9 ⟨rfl, by decide +kernel⟩ rfl ⟨rfl, rfl⟩ ⟨Nat.le_of_ble_eq_true rfl, Nat.le_of_ble_eq_true rfl⟩ (Nat.le_of_ble_eq_true rfl) dX0_update_20 ⟨Nat.zero_le _, Nat.zero_le _⟩ rfl (fun H locs hI => ?_)
    refine kb_ne (tgt := 36) cx dX0_update_23 (by decide) (fun c_2 => ?_) (fun c_2 => ?_)
    · refine lv_aload_n cx.1 cx.2.1 dX0_update_36 rfl (lv_at hl 0 rfl) ?_
      refine lv_iload_n cx.1 cx.2.1 dX0_update_37 rfl (lv_at hl 1 rfl) ?_
      refine xc_i 1 cx (hl.1.trans hml.symm) (kX0_isSeen l D ca ad v key hk) hI wk_248 wk_245 wk_247 wq_10 ⟨rfl, by decide +kernel⟩ rfl ⟨rfl, rfl⟩ ⟨Nat.le_of_ble_eq_true rfl, Nat.le_of_ble_eq_true rfl⟩ (Nat.le_of_ble_eq_true rfl) dX0_update_38 ⟨Nat.zero_le _, Nat.zero_le _⟩ rfl (fun H locs hI => ?_)
      refine kb_ne (tgt := 54) cx dX0_update_41 (by decide) (fun c_3 => ?_) (fun c_3 => ?_)
      · refine lv_aload_n cx.1 cx.2.1 dX0_update_54 rfl (lv_at hl 0 rfl) ?_
        refine lv_iload_n cx.1 cx.2.1 dX0_update_55 rfl (lv_at hl 1 rfl) ?_
        refine lv_iload_n cx.1 cx.2.1 dX0_update_56 rfl (lv_at hl 2 rfl) ?_
        refine lv_iload_n cx.1 cx.2.1 dX0_update_57 rfl (lv_at hl 3 rfl) ?_
        refine xc_v 3 cx (hl.1.trans hml.symm) (kX0_putRow l D ca ad v key a b hk) hI wk_268 wk_265 wk_267 wq_11 ⟨rfl, by decide +kernel⟩ rfl ⟨rfl, rfl⟩ ⟨Nat.le_of_ble_eq_true rfl, Nat.le_of_ble_eq_true rfl⟩ (Nat.le_of_ble_eq_true rfl) dX0_update_58 ⟨Nat.zero_le _, Nat.zero_le _⟩ rfl (fun H locs hI => ?_)
        refine lv_aload_n cx.1 cx.2.1 dX0_update_61 rfl (lv_at hl 0 rfl) ?_
        refine lv_iload_n cx.1 cx.2.1 dX0_update_62 rfl (lv_at hl 1 rfl) ?_
        refine xc_v 1 cx (hl.1.trans hml.symm) (kX0_followWrite l D ca ad (xPut v key a b) key hk h0) hI wk_272 wk_269 wk_271 wq_12 ⟨rfl, by decide +kernel⟩ rfl ⟨rfl, rfl⟩ ⟨Nat.le_of_ble_eq_true rfl, Nat.le_of_ble_eq_true rfl⟩ (Nat.le_of_ble_eq_true rfl) dX0_update_63 ⟨Nat.zero_le _, Nat.zero_le _⟩ rfl (fun H locs hI => ?_)
        exact ke_x (by simp [xfUpdate, c_1, c_2, c_3]) (ke_v cx hr hlk hI (Nat.zero_le _) (Nat.zero_le _) dX0_update_66 rfl rfl)
      · exact kt_nse cx hlS hlk htab hE hI (hl.1.trans hml.symm) (show (82, "there is no row with this key") ∈ kstrs by decide) dX0_update_44 dX0_update_47 dX0_update_48 dX0_update_50 dX0_update_53 ⟨Nat.le_of_ble_eq_true rfl, Nat.le_of_ble_eq_true rfl⟩ ⟨Nat.le_of_ble_eq_true rfl, Nat.le_of_ble_eq_true rfl⟩ (Or.inr (Or.inr (⟨(by simp [xfUpdate, c_1, c_2, c_3]), rfl⟩)))
    · exact kt_iae cx hlS hlk htab hE hI (hl.1.trans hml.symm) (show (61, "a or b is out of range, or the row does not fit") ∈ kstrs by decide) dX0_update_26 dX0_update_29 dX0_update_30 dX0_update_32 dX0_update_35 ⟨Nat.le_of_ble_eq_true rfl, Nat.le_of_ble_eq_true rfl⟩ ⟨Nat.le_of_ble_eq_true rfl, Nat.le_of_ble_eq_true rfl⟩ (Or.inr (Or.inl (⟨(by simp [xfUpdate, c_1, c_2]), rfl⟩)))
  · exact kt_iob cx hlS hlk htab hE hI (hl.1.trans hml.symm) (show (50, "there is no such key") ∈ kstrs by decide) dX0_update_7 dX0_update_10 dX0_update_11 dX0_update_13 dX0_update_16 ⟨Nat.le_of_ble_eq_true rfl, Nat.le_of_ble_eq_true rfl⟩ ⟨Nat.le_of_ble_eq_true rfl, Nat.le_of_ble_eq_true rfl⟩ (Or.inl (⟨(by simp [xfUpdate, c_1]), rfl⟩))
set_option maxHeartbeats 4000000 in
set_option maxRecDepth 100000 in
theorem kX0_delete (l : Launch) (D : va_G) (ca : Nat → ClassId) (ad : Nat → Nat) (v : XS) (key : Int32) (h0 : ¬ xc v < 0) (hlS : l.stackTraces = false) : CX l yX0_delete cX0_delete 3 (some .int) (KR1 6 129) D ca (xw ad ca v) [.ref (ad 0), .int key] (xfDelete v key = 0) (some (.int (xRow v key))) (xw ad ca (xFollow (xPut v key (-1) (-1)) key)) (fun E => (xfDelete v key = 1 ∧ E = "java/lang/IndexOutOfBoundsException") ∨ (xfDelete v key = 2 ∧ E = "java/util/NoSuchElementException")) := by
  refine CX.of (by decide) (Nat.le_of_ble_eq_true rfl) ?_
  intro p e s m below meth c A ls cx hml hr hlk htab hE hI hl
  have hl : lv_has ls 3 [(0, .ref (ad 0)), (1, .int key)] := hl
  refine lv_iload_n cx.1 cx.2.1 dX0_delete_0 rfl (lv_at hl 1 rfl) ?_
  refine ks_i 1 cx (hl.1.trans hml.symm) (kX0_isKey l D ca key) hI wk_89 wk_87 wk_88 wk_1 ⟨by decide, by decide, by decide +kernel⟩ rfl ⟨rfl, rfl⟩ ⟨Nat.le_of_ble_eq_true rfl, Nat.le_of_ble_eq_true rfl⟩ (Nat.le_of_ble_eq_true rfl) dX0_delete_1 ⟨Nat.zero_le _, Nat.zero_le _⟩ rfl (fun H locs hI => ?_)
  refine kb_ne (tgt := 17) cx dX0_delete_4 (by decide) (fun c_1 => ?_) (fun c_1 => ?_)
  · have hk : vp_in key 40 := xKey_in c_1
    refine lv_aload_n cx.1 cx.2.1 dX0_delete_17 rfl (lv_at hl 0 rfl) ?_
    refine lv_iload_n cx.1 cx.2.1 dX0_delete_18 rfl (lv_at hl 1 rfl) ?_
    refine xc_i 1 cx (hl.1.trans hml.symm) (kX0_isSeen l D ca ad v key hk) hI wk_248 wk_245 wk_247 wq_10 ⟨rfl, by decide +kernel⟩ rfl ⟨rfl, rfl⟩ ⟨Nat.le_of_ble_eq_true rfl, Nat.le_of_ble_eq_true rfl⟩ (Nat.le_of_ble_eq_true rfl) dX0_delete_19 ⟨Nat.zero_le _, Nat.zero_le _⟩ rfl (fun H locs hI => ?_)
    refine kb_ne (tgt := 35) cx dX0_delete_22 (by decide) (fun c_2 => ?_) (fun c_2 => ?_)
    · refine lv_aload_n cx.1 cx.2.1 dX0_delete_35 rfl (lv_at hl 0 rfl) ?_
      refine lv_iload_n cx.1 cx.2.1 dX0_delete_36 rfl (lv_at hl 1 rfl) ?_
      refine xc_i 1 cx (hl.1.trans hml.symm) (kX0_rowAsNumber l D ca ad v key hk) hI wk_325 wk_322 wk_324 wq_16 ⟨rfl, by decide +kernel⟩ rfl ⟨rfl, rfl⟩ ⟨Nat.le_of_ble_eq_true rfl, Nat.le_of_ble_eq_true rfl⟩ (Nat.le_of_ble_eq_true rfl) dX0_delete_37 ⟨Nat.zero_le _, Nat.zero_le _⟩ rfl (fun H locs hI => ?_)
      refine lv_istore_n (lv' := [(2, .int (xRow v key)), (0, .ref (ad 0)), (1, .int key)]) cx.1 cx.2.1 dX0_delete_40 rfl hl (by decide) rfl (fun ls hl => ?_)
      refine lv_aload_n cx.1 cx.2.1 dX0_delete_41 rfl (lv_at hl 1 rfl) ?_
      refine lv_iload_n cx.1 cx.2.1 dX0_delete_42 rfl (lv_at hl 2 rfl) ?_
      refine xc_v 1 cx (hl.1.trans hml.symm) (kX0_removeRow l D ca ad v key hk) hI wk_311 wk_308 wk_310 wq_15 ⟨rfl, by decide +kernel⟩ rfl ⟨rfl, rfl⟩ ⟨Nat.le_of_ble_eq_true rfl, Nat.le_of_ble_eq_true rfl⟩ (Nat.le_of_ble_eq_true rfl) dX0_delete_43 ⟨Nat.zero_le _, Nat.zero_le _⟩ rfl (fun H locs hI => ?_)
      refine lv_aload_n cx.1 cx.2.1 dX0_delete_46 rfl (lv_at hl 1 rfl) ?_
      refine lv_iload_n cx.1 cx.2.1 dX0_delete_47 rfl (lv_at hl 2 rfl) ?_
      refine xc_v 1 cx (hl.1.trans hml.symm) (kX0_followWrite l D ca ad (xPut v key (-1) (-1)) key hk h0) hI wk_272 wk_269 wk_271 wq_12 ⟨rfl, by decide +kernel⟩ rfl ⟨rfl, rfl⟩ ⟨Nat.le_of_ble_eq_true rfl, Nat.le_of_ble_eq_true rfl⟩ (Nat.le_of_ble_eq_true rfl) dX0_delete_48 ⟨Nat.zero_le _, Nat.zero_le _⟩ rfl (fun H locs hI => ?_)
      refine lv_iload_n cx.1 cx.2.1 dX0_delete_51 rfl (lv_at hl 0 rfl) ?_
      exact ke_x (by simp [xfDelete, c_1, c_2]) (ke_i cx hr hlk hI (Nat.zero_le _) (Nat.zero_le _) dX0_delete_52 rfl rfl)
    · exact kt_nse cx hlS hlk htab hE hI (hl.1.trans hml.symm) (show (82, "there is no row with this key") ∈ kstrs by decide) dX0_delete_25 dX0_delete_28 dX0_delete_29 dX0_delete_31 dX0_delete_34 ⟨Nat.le_of_ble_eq_true rfl, Nat.le_of_ble_eq_true rfl⟩ ⟨Nat.le_of_ble_eq_true rfl, Nat.le_of_ble_eq_true rfl⟩ (Or.inr (⟨(by simp [xfDelete, c_1, c_2]), rfl⟩))
  · exact kt_iob cx hlS hlk htab hE hI (hl.1.trans hml.symm) (show (50, "there is no such key") ∈ kstrs by decide) dX0_delete_7 dX0_delete_10 dX0_delete_11 dX0_delete_13 dX0_delete_16 ⟨Nat.le_of_ble_eq_true rfl, Nat.le_of_ble_eq_true rfl⟩ ⟨Nat.le_of_ble_eq_true rfl, Nat.le_of_ble_eq_true rfl⟩ (Or.inl (⟨(by simp [xfDelete, c_1]), rfl⟩))
set_option maxHeartbeats 4000000 in
set_option maxRecDepth 100000 in
theorem kX0_rekey (l : Launch) (D : va_G) (ca : Nat → ClassId) (ad : Nat → Nat) (v : XS) (key to : Int32) (h0 : ¬ xc v < 0) (hlS : l.stackTraces = false) : CX l yX0_rekey cX0_rekey 3 none (KR1 6 129) D ca (xw ad ca v) [.ref (ad 0), .int key, .int to] (xfRekey v key to = 0) none (xw ad ca (xRekey v key to)) (fun E => (xfRekey v key to = 1 ∧ E = "java/lang/IndexOutOfBoundsException") ∨ (xfRekey v key to = 2 ∧ E = "java/lang/IllegalArgumentException") ∨ (xfRekey v key to = 3 ∧ E = "java/util/NoSuchElementException") ∨ (xfRekey v key to = 4 ∧ E = "java/lang/IllegalStateException")) := by
  refine CX.of (by decide) (Nat.le_of_ble_eq_true rfl) ?_
  intro p e s m below meth c A ls cx hml hr hlk htab hE hI hl
  have hl : lv_has ls 3 [(0, .ref (ad 0)), (1, .int key), (2, .int to)] := hl
  refine lv_iload_n cx.1 cx.2.1 dX0_rekey_0 rfl (lv_at hl 1 rfl) ?_
  refine ks_i 1 cx (hl.1.trans hml.symm) (kX0_isKey l D ca key) hI wk_89 wk_87 wk_88 wk_1 ⟨by decide, by decide, by decide +kernel⟩ rfl ⟨rfl, rfl⟩ ⟨Nat.le_of_ble_eq_true rfl, Nat.le_of_ble_eq_true rfl⟩ (Nat.le_of_ble_eq_true rfl) dX0_rekey_1 ⟨Nat.zero_le _, Nat.zero_le _⟩ rfl (fun H locs hI => ?_)
  refine kb_eq (tgt := 14) cx dX0_rekey_4 (by decide) (fun c_1 => ?_) (fun c_1 => ?_)
  · exact kt_iob cx hlS hlk htab hE hI (hl.1.trans hml.symm) (show (50, "there is no such key") ∈ kstrs by decide) dX0_rekey_14 dX0_rekey_17 dX0_rekey_18 dX0_rekey_20 dX0_rekey_23 ⟨Nat.le_of_ble_eq_true rfl, Nat.le_of_ble_eq_true rfl⟩ ⟨Nat.le_of_ble_eq_true rfl, Nat.le_of_ble_eq_true rfl⟩ (Or.inl (⟨(by simp [xRekey, xfRekey, c_1]), rfl⟩))
  · refine lv_iload_n cx.1 cx.2.1 dX0_rekey_7 rfl (lv_at hl 2 rfl) ?_
    refine ks_i 1 cx (hl.1.trans hml.symm) (kX0_isKey l D ca to) hI wk_89 wk_87 wk_88 wk_1 ⟨by decide, by decide, by decide +kernel⟩ rfl ⟨rfl, rfl⟩ ⟨Nat.le_of_ble_eq_true rfl, Nat.le_of_ble_eq_true rfl⟩ (Nat.le_of_ble_eq_true rfl) dX0_rekey_8 ⟨Nat.zero_le _, Nat.zero_le _⟩ rfl (fun H locs hI => ?_)
    refine kb_ne (tgt := 24) cx dX0_rekey_11 (by decide) (fun c_2 => ?_) (fun c_2 => ?_)
    · have hk : vp_in key 40 := xKey_in c_1
      have hk2 : vp_in to 40 := xKey_in c_2
      refine lv_iload_n cx.1 cx.2.1 dX0_rekey_24 rfl (lv_at hl 1 rfl) ?_
      refine lv_iload_n cx.1 cx.2.1 dX0_rekey_25 rfl (lv_at hl 2 rfl) ?_
      refine lv_icmp_ne (tgt := 39) cx.1 cx.2.1 dX0_rekey_26 (by decide) (fun c_3 => ?_) (fun c_3 => ?_)
      · refine lv_aload_n cx.1 cx.2.1 dX0_rekey_39 rfl (lv_at hl 0 rfl) ?_
        refine lv_iload_n cx.1 cx.2.1 dX0_rekey_40 rfl (lv_at hl 1 rfl) ?_
        refine xc_i 1 cx (hl.1.trans hml.symm) (kX0_isSeen l D ca ad v key hk) hI wk_248 wk_245 wk_247 wq_10 ⟨rfl, by decide +kernel⟩ rfl ⟨rfl, rfl⟩ ⟨Nat.le_of_ble_eq_true rfl, Nat.le_of_ble_eq_true rfl⟩ (Nat.le_of_ble_eq_true rfl) dX0_rekey_41 ⟨Nat.zero_le _, Nat.zero_le _⟩ rfl (fun H locs hI => ?_)
        refine kb_ne (tgt := 57) cx dX0_rekey_44 (by decide) (fun c_4 => ?_) (fun c_4 => ?_)
        · refine lv_aload_n cx.1 cx.2.1 dX0_rekey_57 rfl (lv_at hl 0 rfl) ?_
          refine lv_iload_n cx.1 cx.2.1 dX0_rekey_58 rfl (lv_at hl 2 rfl) ?_
          refine xc_i 1 cx (hl.1.trans hml.symm) (kX0_isSeen l D ca ad v to hk2) hI wk_248 wk_245 wk_247 wq_10 ⟨rfl, by decide +kernel⟩ rfl ⟨rfl, rfl⟩ ⟨Nat.le_of_ble_eq_true rfl, Nat.le_of_ble_eq_true rfl⟩ (Nat.le_of_ble_eq_true rfl) dX0_rekey_59 ⟨Nat.zero_le _, Nat.zero_le _⟩ rfl (fun H locs hI => ?_)
          refine kb_eq (tgt := 75) cx dX0_rekey_62 (by decide) (fun c_5 => ?_) (fun c_5 => ?_)
          · refine lv_aload_n cx.1 cx.2.1 dX0_rekey_75 rfl (lv_at hl 0 rfl) ?_
            refine lv_iload_n cx.1 cx.2.1 dX0_rekey_76 rfl (lv_at hl 2 rfl) ?_
            refine lv_aload_n cx.1 cx.2.1 dX0_rekey_77 rfl (lv_at hl 0 rfl) ?_
            refine xg_0 cx hI dX0_rekey_78 ?_
            refine lv_iload_n cx.1 cx.2.1 dX0_rekey_81 rfl (lv_at hl 1 rfl) ?_
            refine xa_A cx hI hk dX0_rekey_82 ?_
            refine lv_aload_n cx.1 cx.2.1 dX0_rekey_83 rfl (lv_at hl 0 rfl) ?_
            refine xg_1 cx hI dX0_rekey_84 ?_
            refine lv_iload_n cx.1 cx.2.1 dX0_rekey_87 rfl (lv_at hl 1 rfl) ?_
            refine xa_B cx hI hk dX0_rekey_88 ?_
            refine xc_v 3 cx (hl.1.trans hml.symm) (kX0_putRow l D ca ad v to (xA v key.toNatClampNeg) (xB v key.toNatClampNeg) hk2) hI wk_268 wk_265 wk_267 wq_11 ⟨rfl, by decide +kernel⟩ rfl ⟨rfl, rfl⟩ ⟨Nat.le_of_ble_eq_true rfl, Nat.le_of_ble_eq_true rfl⟩ (Nat.le_of_ble_eq_true rfl) dX0_rekey_89 ⟨Nat.zero_le _, Nat.zero_le _⟩ rfl (fun H locs hI => ?_)
            refine lv_aload_n cx.1 cx.2.1 dX0_rekey_92 rfl (lv_at hl 0 rfl) ?_
            refine lv_iload_n cx.1 cx.2.1 dX0_rekey_93 rfl (lv_at hl 1 rfl) ?_
            refine xc_v 1 cx (hl.1.trans hml.symm) (kX0_removeRow l D ca ad (xPut v to (xA v key.toNatClampNeg) (xB v key.toNatClampNeg)) key hk) hI wk_311 wk_308 wk_310 wq_15 ⟨rfl, by decide +kernel⟩ rfl ⟨rfl, rfl⟩ ⟨Nat.le_of_ble_eq_true rfl, Nat.le_of_ble_eq_true rfl⟩ (Nat.le_of_ble_eq_true rfl) dX0_rekey_94 ⟨Nat.zero_le _, Nat.zero_le _⟩ rfl (fun H locs hI => ?_)
            refine lv_aload_n cx.1 cx.2.1 dX0_rekey_97 rfl (lv_at hl 0 rfl) ?_
            refine lv_iload_n cx.1 cx.2.1 dX0_rekey_98 rfl (lv_at hl 1 rfl) ?_
            refine lv_iload_n cx.1 cx.2.1 dX0_rekey_99 rfl (lv_at hl 2 rfl) ?_
            refine k_mmin cx (hml.trans hl.1.symm) (cx.2.2.2.1 _ wk_312) (Nat.le_of_ble_eq_true rfl) (Nat.le_of_ble_eq_true rfl) (Nat.zero_le _) (Nat.zero_le _) dX0_rekey_100 ?_
            refine k_top (y := kMin key to) rfl ?_
            refine xc_v 1 cx (hl.1.trans hml.symm) (kX0_followWrite l D ca ad (xPut (xPut v to (xA v key.toNatClampNeg) (xB v key.toNatClampNeg)) key (-1) (-1)) (kMin key to) (kMin_in hk hk2) h0) hI wk_272 wk_269 wk_271 wq_12 ⟨rfl, by decide +kernel⟩ rfl ⟨rfl, rfl⟩ ⟨Nat.le_of_ble_eq_true rfl, Nat.le_of_ble_eq_true rfl⟩ (Nat.le_of_ble_eq_true rfl) dX0_rekey_103 ⟨Nat.zero_le _, Nat.zero_le _⟩ rfl (fun H locs hI => ?_)
            refine lv_aload_n cx.1 cx.2.1 dX0_rekey_106 rfl (lv_at hl 0 rfl) ?_
            refine lv_iload_n cx.1 cx.2.1 dX0_rekey_107 rfl (lv_at hl 1 rfl) ?_
            refine lv_iload_n cx.1 cx.2.1 dX0_rekey_108 rfl (lv_at hl 2 rfl) ?_
            refine k_mmax cx (hml.trans hl.1.symm) (cx.2.2.2.1 _ wk_315) (Nat.le_of_ble_eq_true rfl) (Nat.le_of_ble_eq_true rfl) (Nat.zero_le _) (Nat.zero_le _) dX0_rekey_109 ?_
            refine k_top (y := kMax key to) rfl ?_
            refine xc_v 1 cx (hl.1.trans hml.symm) (kX0_followWrite l D ca ad (xFollow (xPut (xPut v to (xA v key.toNatClampNeg) (xB v key.toNatClampNeg)) key (-1) (-1)) (kMin key to)) (kMax key to) (kMax_in hk hk2) (xFollow_c h0)) hI wk_272 wk_269 wk_271 wq_12 ⟨rfl, by decide +kernel⟩ rfl ⟨rfl, rfl⟩ ⟨Nat.le_of_ble_eq_true rfl, Nat.le_of_ble_eq_true rfl⟩ (Nat.le_of_ble_eq_true rfl) dX0_rekey_112 ⟨Nat.zero_le _, Nat.zero_le _⟩ rfl (fun H locs hI => ?_)
            exact ke_x (by simp [xRekey, xfRekey, c_1, c_2, c_3, c_4, c_5]) (ke_v cx hr hlk hI (Nat.zero_le _) (Nat.zero_le _) dX0_rekey_115 rfl (congrArg (xw ad ca) (by simp [xRekey, xfRekey, c_1, c_2, c_3, c_4, c_5])))
          · exact kt_ise cx hlS hlk htab hE hI (hl.1.trans hml.symm) (show (96, "there is a row with the other key") ∈ kstrs by decide) dX0_rekey_65 dX0_rekey_68 dX0_rekey_69 dX0_rekey_71 dX0_rekey_74 ⟨Nat.le_of_ble_eq_true rfl, Nat.le_of_ble_eq_true rfl⟩ ⟨Nat.le_of_ble_eq_true rfl, Nat.le_of_ble_eq_true rfl⟩ (Or.inr (Or.inr (Or.inr (⟨(by simp [xRekey, xfRekey, c_1, c_2, c_3, c_4, c_5]), rfl⟩))))
        · exact kt_nse cx hlS hlk htab hE hI (hl.1.trans hml.symm) (show (94, "there is no row with the first key") ∈ kstrs by decide) dX0_rekey_47 dX0_rekey_50 dX0_rekey_51 dX0_rekey_53 dX0_rekey_56 ⟨Nat.le_of_ble_eq_true rfl, Nat.le_of_ble_eq_true rfl⟩ ⟨Nat.le_of_ble_eq_true rfl, Nat.le_of_ble_eq_true rfl⟩ (Or.inr (Or.inr (Or.inl (⟨(by simp [xRekey, xfRekey, c_1, c_2, c_3, c_4]), rfl⟩))))
      · exact kt_iae cx hlS hlk htab hE hI (hl.1.trans hml.symm) (show (92, "both keys are the same") ∈ kstrs by decide) dX0_rekey_29 dX0_rekey_32 dX0_rekey_33 dX0_rekey_35 dX0_rekey_38 ⟨Nat.le_of_ble_eq_true rfl, Nat.le_of_ble_eq_true rfl⟩ ⟨Nat.le_of_ble_eq_true rfl, Nat.le_of_ble_eq_true rfl⟩ (Or.inr (Or.inl (⟨(by simp [xRekey, xfRekey, c_1, c_2, c_3]), rfl⟩)))
    · exact kt_iob cx hlS hlk htab hE hI (hl.1.trans hml.symm) (show (50, "there is no such key") ∈ kstrs by decide) dX0_rekey_14 dX0_rekey_17 dX0_rekey_18 dX0_rekey_20 dX0_rekey_23 ⟨Nat.le_of_ble_eq_true rfl, Nat.le_of_ble_eq_true rfl⟩ ⟨Nat.le_of_ble_eq_true rfl, Nat.le_of_ble_eq_true rfl⟩ (Or.inl (⟨(by simp [xRekey, xfRekey, c_1, c_2]), rfl⟩))
set_option maxHeartbeats 4000000 in
set_option maxRecDepth 100000 in
theorem kX0_start (l : Launch) (D : va_G) (ca : Nat → ClassId) (ad : Nat → Nat) (v : XS) (al pa : Int32) (hlS : l.stackTraces = false) : CX l yX0_start cX0_start 3 none (KR1 6 82) D ca (xw ad ca v) [.ref (ad 0), .int al, .int pa] (xfStart v al pa = 0) none (xw ad ca (xStart v al pa)) (fun E => (xfStart v al pa = 1 ∧ E = "java/lang/IllegalArgumentException") ∨ (xfStart v al pa = 2 ∧ E = "java/lang/IllegalStateException")) := by
  refine CX.of (by decide) (Nat.le_of_ble_eq_true rfl) ?_
  intro p e s m below meth c A ls cx hml hr hlk htab hE hI hl
  have hl : lv_has ls 3 [(0, .ref (ad 0)), (1, .int al), (2, .int pa)] := hl
  refine lv_iload_n cx.1 cx.2.1 dX0_start_0 rfl (lv_at hl 1 rfl) ?_
  refine lv_iconst (v := 0) cx.1 cx.2.1 dX0_start_1 (by decide) ?_
  refine lv_iconst (v := 2) cx.1 cx.2.1 dX0_start_2 (by decide) ?_
  refine ks_i 3 cx (hl.1.trans hml.symm) (kX0_isWithin l D ca al 0 2) hI wk_92 wk_90 wk_91 wk_1 ⟨by decide, by decide, by decide +kernel⟩ rfl ⟨rfl, rfl⟩ ⟨Nat.le_of_ble_eq_true rfl, Nat.le_of_ble_eq_true rfl⟩ (Nat.le_of_ble_eq_true rfl) dX0_start_3 ⟨Nat.zero_le _, Nat.zero_le _⟩ rfl (fun H locs hI => ?_)
  refine kb_eq (tgt := 20) cx dX0_start_6 (by decide) (fun c_1 => ?_) (fun c_1 => ?_)
  · exact kt_iae cx hlS hlk htab hE hI (hl.1.trans hml.symm) (show (111, "alteration or parameter is out of range") ∈ kstrs by decide) dX0_start_20 dX0_start_23 dX0_start_24 dX0_start_26 dX0_start_29 ⟨Nat.le_of_ble_eq_true rfl, Nat.le_of_ble_eq_true rfl⟩ ⟨Nat.le_of_ble_eq_true rfl, Nat.le_of_ble_eq_true rfl⟩ (Or.inl (⟨(by simp [xStart, xfStart, c_1]), rfl⟩))
  · refine lv_iload_n cx.1 cx.2.1 dX0_start_9 rfl (lv_at hl 2 rfl) ?_
    refine lv_iconst (v := 0) cx.1 cx.2.1 dX0_start_10 (by decide) ?_
    refine lv_sipush (v := 999) cx.1 cx.2.1 dX0_start_11 (by decide) ?_
    refine ks_i 3 cx (hl.1.trans hml.symm) (kX0_isWithin l D ca pa 0 999) hI wk_92 wk_90 wk_91 wk_1 ⟨by decide, by decide, by decide +kernel⟩ rfl ⟨rfl, rfl⟩ ⟨Nat.le_of_ble_eq_true rfl, Nat.le_of_ble_eq_true rfl⟩ (Nat.le_of_ble_eq_true rfl) dX0_start_14 ⟨Nat.zero_le _, Nat.zero_le _⟩ rfl (fun H locs hI => ?_)
    refine kb_ne (tgt := 30) cx dX0_start_17 (by decide) (fun c_2 => ?_) (fun c_2 => ?_)
    · refine lv_aload_n cx.1 cx.2.1 dX0_start_30 rfl (lv_at hl 0 rfl) ?_
      refine xg_6 cx hI dX0_start_31 ?_
      refine lv_if_eq (tgt := 47) cx.1 cx.2.1 dX0_start_34 (by decide) (fun c_3 => ?_) (fun c_3 => ?_)
      · refine lv_aload_n cx.1 cx.2.1 dX0_start_47 rfl (lv_at hl 0 rfl) ?_
        refine lv_iload_n cx.1 cx.2.1 dX0_start_48 rfl (lv_at hl 1 rfl) ?_
        refine xp_8 cx hI dX0_start_49 (fun H locs hI => ?_)
        refine lv_aload_n cx.1 cx.2.1 dX0_start_52 rfl (lv_at hl 0 rfl) ?_
        refine lv_iload_n cx.1 cx.2.1 dX0_start_53 rfl (lv_at hl 2 rfl) ?_
        refine xp_9 cx hI dX0_start_54 (fun H locs hI => ?_)
        refine lv_aload_n cx.1 cx.2.1 dX0_start_57 rfl (lv_at hl 0 rfl) ?_
        refine lv_iconst (v := 0) cx.1 cx.2.1 dX0_start_58 (by decide) ?_
        refine xp_7 cx hI dX0_start_59 (fun H locs hI => ?_)
        refine lv_aload_n cx.1 cx.2.1 dX0_start_62 rfl (lv_at hl 0 rfl) ?_
        refine lv_iconst (v := 1) cx.1 cx.2.1 dX0_start_63 (by decide) ?_
        refine xp_6 cx hI dX0_start_64 (fun H locs hI => ?_)
        exact ke_x (by simp [xStart, xfStart, c_1, c_2, c_3]) (ke_v cx hr hlk hI (Nat.zero_le _) (Nat.zero_le _) dX0_start_67 rfl (congrArg (xw ad ca) (by simp [xStart, xfStart, c_1, c_2, c_3])))
      · exact kt_ise cx hlS hlk htab hE hI (hl.1.trans hml.symm) (show (113, "the phase is not IDLE") ∈ kstrs by decide) dX0_start_37 dX0_start_40 dX0_start_41 dX0_start_43 dX0_start_46 ⟨Nat.le_of_ble_eq_true rfl, Nat.le_of_ble_eq_true rfl⟩ ⟨Nat.le_of_ble_eq_true rfl, Nat.le_of_ble_eq_true rfl⟩ (Or.inr (⟨(by simp [xStart, xfStart, c_1, c_2, c_3]), rfl⟩))
    · exact kt_iae cx hlS hlk htab hE hI (hl.1.trans hml.symm) (show (111, "alteration or parameter is out of range") ∈ kstrs by decide) dX0_start_20 dX0_start_23 dX0_start_24 dX0_start_26 dX0_start_29 ⟨Nat.le_of_ble_eq_true rfl, Nat.le_of_ble_eq_true rfl⟩ ⟨Nat.le_of_ble_eq_true rfl, Nat.le_of_ble_eq_true rfl⟩ (Or.inl (⟨(by simp [xStart, xfStart, c_1, c_2]), rfl⟩))
set_option maxHeartbeats 4000000 in
set_option maxRecDepth 100000 in
theorem kX0_setPace (l : Launch) (D : va_G) (ca : Nat → ClassId) (ad : Nat → Nat) (v : XS) (ch lag : Int32) (hlS : l.stackTraces = false) : CX l yX0_setPace cX0_setPace 3 none (KR1 6 82) D ca (xw ad ca v) [.ref (ad 0), .int ch, .int lag] (xfPace ch lag = 0) none (xw ad ca (xUl (xUk v ch) lag)) (fun E => (xfPace ch lag = 1 ∧ E = "java/lang/IllegalArgumentException")) := by
  refine CX.of (by decide) (Nat.le_of_ble_eq_true rfl) ?_
  intro p e s m below meth c A ls cx hml hr hlk htab hE hI hl
  have hl : lv_has ls 3 [(0, .ref (ad 0)), (1, .int ch), (2, .int lag)] := hl
  refine lv_iload_n cx.1 cx.2.1 dX0_setPace_0 rfl (lv_at hl 1 rfl) ?_
  refine lv_iconst (v := 1) cx.1 cx.2.1 dX0_setPace_1 (by decide) ?_
  refine lv_bipush (v := 40) cx.1 cx.2.1 dX0_setPace_2 (by decide) ?_
  refine ks_i 3 cx (hl.1.trans hml.symm) (kX0_isWithin l D ca ch 1 40) hI wk_92 wk_90 wk_91 wk_1 ⟨by decide, by decide, by decide +kernel⟩ rfl ⟨rfl, rfl⟩ ⟨Nat.le_of_ble_eq_true rfl, Nat.le_of_ble_eq_true rfl⟩ (Nat.le_of_ble_eq_true rfl) dX0_setPace_4 ⟨Nat.zero_le _, Nat.zero_le _⟩ rfl (fun H locs hI => ?_)
  refine kb_eq (tgt := 20) cx dX0_setPace_7 (by decide) (fun c_1 => ?_) (fun c_1 => ?_)
  · exact kt_iae cx hlS hlk htab hE hI (hl.1.trans hml.symm) (show (124, "chunk or lag is out of range") ∈ kstrs by decide) dX0_setPace_20 dX0_setPace_23 dX0_setPace_24 dX0_setPace_26 dX0_setPace_29 ⟨Nat.le_of_ble_eq_true rfl, Nat.le_of_ble_eq_true rfl⟩ ⟨Nat.le_of_ble_eq_true rfl, Nat.le_of_ble_eq_true rfl⟩ (⟨(by simp [xfPace, c_1]), rfl⟩)
  · refine lv_iload_n cx.1 cx.2.1 dX0_setPace_10 rfl (lv_at hl 2 rfl) ?_
    refine lv_iconst (v := 0) cx.1 cx.2.1 dX0_setPace_11 (by decide) ?_
    refine lv_bipush (v := 100) cx.1 cx.2.1 dX0_setPace_12 (by decide) ?_
    refine ks_i 3 cx (hl.1.trans hml.symm) (kX0_isWithin l D ca lag 0 100) hI wk_92 wk_90 wk_91 wk_1 ⟨by decide, by decide, by decide +kernel⟩ rfl ⟨rfl, rfl⟩ ⟨Nat.le_of_ble_eq_true rfl, Nat.le_of_ble_eq_true rfl⟩ (Nat.le_of_ble_eq_true rfl) dX0_setPace_14 ⟨Nat.zero_le _, Nat.zero_le _⟩ rfl (fun H locs hI => ?_)
    refine kb_ne (tgt := 30) cx dX0_setPace_17 (by decide) (fun c_2 => ?_) (fun c_2 => ?_)
    · refine lv_aload_n cx.1 cx.2.1 dX0_setPace_30 rfl (lv_at hl 0 rfl) ?_
      refine lv_iload_n cx.1 cx.2.1 dX0_setPace_31 rfl (lv_at hl 1 rfl) ?_
      refine xp_10 cx hI dX0_setPace_32 (fun H locs hI => ?_)
      refine lv_aload_n cx.1 cx.2.1 dX0_setPace_35 rfl (lv_at hl 0 rfl) ?_
      refine lv_iload_n cx.1 cx.2.1 dX0_setPace_36 rfl (lv_at hl 2 rfl) ?_
      refine xp_11 cx hI dX0_setPace_37 (fun H locs hI => ?_)
      exact ke_x (by simp [xfPace, c_1, c_2]) (ke_v cx hr hlk hI (Nat.zero_le _) (Nat.zero_le _) dX0_setPace_40 rfl rfl)
    · exact kt_iae cx hlS hlk htab hE hI (hl.1.trans hml.symm) (show (124, "chunk or lag is out of range") ∈ kstrs by decide) dX0_setPace_20 dX0_setPace_23 dX0_setPace_24 dX0_setPace_26 dX0_setPace_29 ⟨Nat.le_of_ble_eq_true rfl, Nat.le_of_ble_eq_true rfl⟩ ⟨Nat.le_of_ble_eq_true rfl, Nat.le_of_ble_eq_true rfl⟩ (⟨(by simp [xfPace, c_1, c_2]), rfl⟩)
set_option maxHeartbeats 4000000 in
set_option maxRecDepth 100000 in
theorem kX0_tick (l : Launch) (D : va_G) (ca : Nat → ClassId) (ad : Nat → Nat) (v : XS) (lag : Int32) (mk n cn nn : Nat) (hm : xm v = nI mk) (he : ¬ (40 : Int32) ≤ xm v → xCopyE v = nI (mk + n)) (hle : ¬ (40 : Int32) ≤ xm v → mk + n ≤ 40) (hc : kMin (xk v) (xc v) = nI cn) (hn : xc v = nI nn) (hcn : cn ≤ nn) (hn2 : nn ≤ 1024) (hN : ∀ j, j < cn → vp_in (xN v (nI j).toNatClampNeg) 40) (hlS : l.stackTraces = false) : CX l yX0_tick cX0_tick 2 (some .int) (KR1 6 131) D ca (xw ad ca v) [.ref (ad 0), .int lag] (xfTick v lag = 0) (some (.int (if lag ≤ xl v then (if 40 ≤ xm v then kMin (xk v) (xc v) else xCopyE v - xm v) else 0))) (xw ad ca (if lag ≤ xl v then (if 40 ≤ xm v then xPlay v cn else xCopy v mk n) else v)) (fun E => (xfTick v lag = 1 ∧ E = "java/lang/IllegalArgumentException") ∨ (xfTick v lag = 2 ∧ E = "java/lang/IllegalStateException")) := by
  refine CX.of (by decide) (Nat.le_of_ble_eq_true rfl) ?_
  intro p e s m below meth c A ls cx hml hr hlk htab hE hI hl
  have hl : lv_has ls 2 [(0, .ref (ad 0)), (1, .int lag)] := hl
  refine lv_iload_n cx.1 cx.2.1 dX0_tick_0 rfl (lv_at hl 1 rfl) ?_
  refine lv_iconst (v := 0) cx.1 cx.2.1 dX0_tick_1 (by decide) ?_
  refine lv_sipush (v := 1000) cx.1 cx.2.1 dX0_tick_2 (by decide) ?_
  refine ks_i 3 cx (hl.1.trans hml.symm) (kX0_isWithin l D ca lag 0 1000) hI wk_92 wk_90 wk_91 wk_1 ⟨by decide, by decide, by decide +kernel⟩ rfl ⟨rfl, rfl⟩ ⟨Nat.le_of_ble_eq_true rfl, Nat.le_of_ble_eq_true rfl⟩ (Nat.le_of_ble_eq_true rfl) dX0_tick_5 ⟨Nat.zero_le _, Nat.zero_le _⟩ rfl (fun H locs hI => ?_)
  refine kb_ne (tgt := 21) cx dX0_tick_8 (by decide) (fun c_1 => ?_) (fun c_1 => ?_)
  · refine lv_aload_n cx.1 cx.2.1 dX0_tick_21 rfl (lv_at hl 0 rfl) ?_
    refine xg_6 cx hI dX0_tick_22 ?_
    refine lv_iconst (v := 1) cx.1 cx.2.1 dX0_tick_25 (by decide) ?_
    refine lv_icmp_eq (tgt := 39) cx.1 cx.2.1 dX0_tick_26 (by decide) (fun c_2 => ?_) (fun c_2 => ?_)
    · refine lv_iload_n cx.1 cx.2.1 dX0_tick_39 rfl (lv_at hl 1 rfl) ?_
      refine lv_aload_n cx.1 cx.2.1 dX0_tick_40 rfl (lv_at hl 0 rfl) ?_
      refine xg_11 cx hI dX0_tick_41 ?_
      refine lv_icmp_le (tgt := 49) cx.1 cx.2.1 dX0_tick_44 (by decide) (fun c_3 => ?_) (fun c_3 => ?_)
      · refine lv_aload_n cx.1 cx.2.1 dX0_tick_49 rfl (lv_at hl 0 rfl) ?_
        refine xg_7 cx hI dX0_tick_50 ?_
        refine lv_bipush (v := 40) cx.1 cx.2.1 dX0_tick_53 (by decide) ?_
        refine lv_icmp_ge (tgt := 63) cx.1 cx.2.1 dX0_tick_55 (by decide) (fun c_4 => ?_) (fun c_4 => ?_)
        · refine lv_aload_n cx.1 cx.2.1 dX0_tick_63 rfl (lv_at hl 0 rfl) ?_
          refine lv_aload_n cx.1 cx.2.1 dX0_tick_64 rfl (lv_at hl 0 rfl) ?_
          refine xg_10 cx hI dX0_tick_65 ?_
          refine lv_aload_n cx.1 cx.2.1 dX0_tick_68 rfl (lv_at hl 0 rfl) ?_
          refine xg_5 cx hI dX0_tick_69 ?_
          refine k_mmin cx (hml.trans hl.1.symm) (cx.2.2.2.1 _ wk_312) (Nat.le_of_ble_eq_true rfl) (Nat.le_of_ble_eq_true rfl) (Nat.zero_le _) (Nat.zero_le _) dX0_tick_72 ?_
          refine k_top (y := kMin (xk v) (xc v)) rfl ?_
          refine xc_i 1 cx (hl.1.trans hml.symm) (kX0_playNotes l D ca ad v (kMin (xk v) (xc v)) cn nn hc hn hcn hn2 hN) hI wk_339 wk_336 wk_338 wq_18 ⟨rfl, by decide +kernel⟩ rfl ⟨rfl, rfl⟩ ⟨Nat.le_of_ble_eq_true rfl, Nat.le_of_ble_eq_true rfl⟩ (Nat.le_of_ble_eq_true rfl) dX0_tick_75 ⟨Nat.zero_le _, Nat.zero_le _⟩ rfl (fun H locs hI => ?_)
          exact ke_x (by simp [hc, xfTick, c_1, c_2, c_3, c_4]) (ke_i cx hr hlk hI (Nat.zero_le _) (Nat.zero_le _) dX0_tick_78 (congrArg (fun z => some (Value.int z)) (by simp [hc, xfTick, c_1, c_2, c_3, c_4])) (congrArg (xw ad ca) (by simp [hc, xfTick, c_1, c_2, c_3, c_4])))
        · refine lv_aload_n cx.1 cx.2.1 dX0_tick_58 rfl (lv_at hl 0 rfl) ?_
          refine xc_i 0 cx (hl.1.trans hml.symm) (kX0_copyChunk l D ca ad v mk n hm (he c_4) (hle c_4)) hI wk_335 wk_332 wk_334 wq_17 ⟨rfl, by decide +kernel⟩ rfl ⟨rfl, rfl⟩ ⟨Nat.le_of_ble_eq_true rfl, Nat.le_of_ble_eq_true rfl⟩ (Nat.le_of_ble_eq_true rfl) dX0_tick_59 ⟨Nat.zero_le _, Nat.zero_le _⟩ rfl (fun H locs hI => ?_)
          exact ke_x (by simp [hc, xfTick, c_1, c_2, c_3, c_4]) (ke_i cx hr hlk hI (Nat.zero_le _) (Nat.zero_le _) dX0_tick_62 (congrArg (fun z => some (Value.int z)) (by simp [hc, xfTick, c_1, c_2, c_3, c_4])) (congrArg (xw ad ca) (by simp [hc, xfTick, c_1, c_2, c_3, c_4])))
      · refine lv_iconst (v := 0) cx.1 cx.2.1 dX0_tick_47 (by decide) ?_
        exact ke_x (by simp [hc, xfTick, c_1, c_2, c_3]) (ke_i cx hr hlk hI (Nat.zero_le _) (Nat.zero_le _) dX0_tick_48 (congrArg (fun z => some (Value.int z)) (by simp [hc, xfTick, c_1, c_2, c_3])) (congrArg (xw ad ca) (by simp [hc, xfTick, c_1, c_2, c_3])))
    · exact kt_ise cx hlS hlk htab hE hI (hl.1.trans hml.symm) (show (128, "the phase is not COPYING") ∈ kstrs by decide) dX0_tick_29 dX0_tick_32 dX0_tick_33 dX0_tick_35 dX0_tick_38 ⟨Nat.le_of_ble_eq_true rfl, Nat.le_of_ble_eq_true rfl⟩ ⟨Nat.le_of_ble_eq_true rfl, Nat.le_of_ble_eq_true rfl⟩ (Or.inr (⟨(by simp [hc, xfTick, c_1, c_2]), rfl⟩))
  · exact kt_iae cx hlS hlk htab hE hI (hl.1.trans hml.symm) (show (126, "lag is out of range") ∈ kstrs by decide) dX0_tick_11 dX0_tick_14 dX0_tick_15 dX0_tick_17 dX0_tick_20 ⟨Nat.le_of_ble_eq_true rfl, Nat.le_of_ble_eq_true rfl⟩ ⟨Nat.le_of_ble_eq_true rfl, Nat.le_of_ble_eq_true rfl⟩ (Or.inl (⟨(by simp [hc, xfTick, c_1]), rfl⟩))
set_option maxHeartbeats 4000000 in
set_option maxRecDepth 100000 in
theorem kX0_cutOver (l : Launch) (D : va_G) (ca : Nat → ClassId) (ad : Nat → Nat) (v : XS) (most : Int32) (nn : Nat) (hn : xc v = nI nn) (hn2 : nn ≤ 1024) (hN : ∀ j, j < nn → vp_in (xN v (nI j).toNatClampNeg) 40) (hlS : l.stackTraces = false) : CX l yX0_cutOver cX0_cutOver 3 (some .int) (KR1 6 130) D ca (xw ad ca v) [.ref (ad 0), .int most] (xfCut v most = 0) (some (.int (xc v))) (xw ad ca (xUp (xPlay v nn) 2)) (fun E => (xfCut v most = 1 ∧ E = "java/lang/IllegalArgumentException") ∨ (xfCut v most = 2 ∧ E = "java/lang/IllegalStateException")) := by
  refine CX.of (by decide) (Nat.le_of_ble_eq_true rfl) ?_
  intro p e s m below meth c A ls cx hml hr hlk htab hE hI hl
  have hl : lv_has ls 3 [(0, .ref (ad 0)), (1, .int most)] := hl
  refine lv_iload_n cx.1 cx.2.1 dX0_cutOver_0 rfl (lv_at hl 1 rfl) ?_
  refine lv_iconst (v := 0) cx.1 cx.2.1 dX0_cutOver_1 (by decide) ?_
  refine lv_sipush (v := 1000) cx.1 cx.2.1 dX0_cutOver_2 (by decide) ?_
  refine ks_i 3 cx (hl.1.trans hml.symm) (kX0_isWithin l D ca most 0 1000) hI wk_92 wk_90 wk_91 wk_1 ⟨by decide, by decide, by decide +kernel⟩ rfl ⟨rfl, rfl⟩ ⟨Nat.le_of_ble_eq_true rfl, Nat.le_of_ble_eq_true rfl⟩ (Nat.le_of_ble_eq_true rfl) dX0_cutOver_5 ⟨Nat.zero_le _, Nat.zero_le _⟩ rfl (fun H locs hI => ?_)
  refine kb_ne (tgt := 21) cx dX0_cutOver_8 (by decide) (fun c_1 => ?_) (fun c_1 => ?_)
  · refine lv_aload_n cx.1 cx.2.1 dX0_cutOver_21 rfl (lv_at hl 0 rfl) ?_
    refine xg_6 cx hI dX0_cutOver_22 ?_
    refine lv_iconst (v := 1) cx.1 cx.2.1 dX0_cutOver_25 (by decide) ?_
    refine lv_icmp_ne (tgt := 46) cx.1 cx.2.1 dX0_cutOver_26 (by decide) (fun c_2 => ?_) (fun c_2 => ?_)
    · exact kt_ise cx hlS hlk htab hE hI (hl.1.trans hml.symm) (show (142, "not COPYING, the mark is not 40, or more notes") ∈ kstrs by decide) dX0_cutOver_46 dX0_cutOver_49 dX0_cutOver_50 dX0_cutOver_52 dX0_cutOver_55 ⟨Nat.le_of_ble_eq_true rfl, Nat.le_of_ble_eq_true rfl⟩ ⟨Nat.le_of_ble_eq_true rfl, Nat.le_of_ble_eq_true rfl⟩ (Or.inr (⟨(by simp [hn.symm, xfCut, c_1, c_2]), rfl⟩))
    · refine lv_aload_n cx.1 cx.2.1 dX0_cutOver_29 rfl (lv_at hl 0 rfl) ?_
      refine xg_7 cx hI dX0_cutOver_30 ?_
      refine lv_bipush (v := 40) cx.1 cx.2.1 dX0_cutOver_33 (by decide) ?_
      refine lv_icmp_lt (tgt := 46) cx.1 cx.2.1 dX0_cutOver_35 (by decide) (fun c_3 => ?_) (fun c_3 => ?_)
      · exact kt_ise cx hlS hlk htab hE hI (hl.1.trans hml.symm) (show (142, "not COPYING, the mark is not 40, or more notes") ∈ kstrs by decide) dX0_cutOver_46 dX0_cutOver_49 dX0_cutOver_50 dX0_cutOver_52 dX0_cutOver_55 ⟨Nat.le_of_ble_eq_true rfl, Nat.le_of_ble_eq_true rfl⟩ ⟨Nat.le_of_ble_eq_true rfl, Nat.le_of_ble_eq_true rfl⟩ (Or.inr (⟨(by simp [hn.symm, xfCut, c_1, c_2, c_3]), rfl⟩))
      · refine lv_aload_n cx.1 cx.2.1 dX0_cutOver_38 rfl (lv_at hl 0 rfl) ?_
        refine xg_5 cx hI dX0_cutOver_39 ?_
        refine lv_iload_n cx.1 cx.2.1 dX0_cutOver_42 rfl (lv_at hl 1 rfl) ?_
        refine lv_icmp_le (tgt := 56) cx.1 cx.2.1 dX0_cutOver_43 (by decide) (fun c_4 => ?_) (fun c_4 => ?_)
        · refine lv_aload_n cx.1 cx.2.1 dX0_cutOver_56 rfl (lv_at hl 0 rfl) ?_
          refine lv_aload_n cx.1 cx.2.1 dX0_cutOver_57 rfl (lv_at hl 0 rfl) ?_
          refine xg_5 cx hI dX0_cutOver_58 ?_
          refine xc_i 1 cx (hl.1.trans hml.symm) (kX0_playNotes l D ca ad v (xc v) nn nn hn hn (Nat.le_refl _) hn2 hN) hI wk_339 wk_336 wk_338 wq_18 ⟨rfl, by decide +kernel⟩ rfl ⟨rfl, rfl⟩ ⟨Nat.le_of_ble_eq_true rfl, Nat.le_of_ble_eq_true rfl⟩ (Nat.le_of_ble_eq_true rfl) dX0_cutOver_61 ⟨Nat.zero_le _, Nat.zero_le _⟩ rfl (fun H locs hI => ?_)
          refine lv_istore_n (lv' := [(2, .int (nI nn)), (0, .ref (ad 0)), (1, .int most)]) cx.1 cx.2.1 dX0_cutOver_64 rfl hl (by decide) rfl (fun ls hl => ?_)
          refine lv_aload_n cx.1 cx.2.1 dX0_cutOver_65 rfl (lv_at hl 1 rfl) ?_
          refine lv_iconst (v := 2) cx.1 cx.2.1 dX0_cutOver_66 (by decide) ?_
          refine xp_6 cx hI dX0_cutOver_67 (fun H locs hI => ?_)
          refine lv_iload_n cx.1 cx.2.1 dX0_cutOver_70 rfl (lv_at hl 0 rfl) ?_
          exact ke_x (by simp [hn.symm, xfCut, c_1, c_2, c_3, c_4]) (ke_i cx hr hlk hI (Nat.zero_le _) (Nat.zero_le _) dX0_cutOver_71 (congrArg (fun z => some (Value.int z)) (by simp [hn.symm, xfCut, c_1, c_2, c_3, c_4])) rfl)
        · exact kt_ise cx hlS hlk htab hE hI (hl.1.trans hml.symm) (show (142, "not COPYING, the mark is not 40, or more notes") ∈ kstrs by decide) dX0_cutOver_46 dX0_cutOver_49 dX0_cutOver_50 dX0_cutOver_52 dX0_cutOver_55 ⟨Nat.le_of_ble_eq_true rfl, Nat.le_of_ble_eq_true rfl⟩ ⟨Nat.le_of_ble_eq_true rfl, Nat.le_of_ble_eq_true rfl⟩ (Or.inr (⟨(by simp [hn.symm, xfCut, c_1, c_2, c_3, c_4]), rfl⟩))
  · exact kt_iae cx hlS hlk htab hE hI (hl.1.trans hml.symm) (show (140, "most is out of range") ∈ kstrs by decide) dX0_cutOver_11 dX0_cutOver_14 dX0_cutOver_15 dX0_cutOver_17 dX0_cutOver_20 ⟨Nat.le_of_ble_eq_true rfl, Nat.le_of_ble_eq_true rfl⟩ ⟨Nat.le_of_ble_eq_true rfl, Nat.le_of_ble_eq_true rfl⟩ (Or.inl (⟨(by simp [hn.symm, xfCut, c_1]), rfl⟩))
set_option maxHeartbeats 4000000 in
set_option maxRecDepth 100000 in
theorem kX0_undo (l : Launch) (D : va_G) (ca : Nat → ClassId) (ad : Nat → Nat) (v : XS) (hlS : l.stackTraces = false) : CX l yX0_undo cX0_undo 1 none (KR1 6 82) D ca (xw ad ca v) [.ref (ad 0)] (xfUndo v = 0) none (xw ad ca (xUp v 1)) (fun E => (xfUndo v = 1 ∧ E = "java/lang/IllegalStateException")) := by
  refine CX.of (by decide) (Nat.le_of_ble_eq_true rfl) ?_
  intro p e s m below meth c A ls cx hml hr hlk htab hE hI hl
  have hl : lv_has ls 1 [(0, .ref (ad 0))] := hl
  refine lv_aload_n cx.1 cx.2.1 dX0_undo_0 rfl (lv_at hl 0 rfl) ?_
  refine xg_6 cx hI dX0_undo_1 ?_
  refine lv_iconst (v := 2) cx.1 cx.2.1 dX0_undo_4 (by decide) ?_
  refine lv_icmp_eq (tgt := 18) cx.1 cx.2.1 dX0_undo_5 (by decide) (fun c_1 => ?_) (fun c_1 => ?_)
  · refine lv_aload_n cx.1 cx.2.1 dX0_undo_18 rfl (lv_at hl 0 rfl) ?_
    refine lv_iconst (v := 1) cx.1 cx.2.1 dX0_undo_19 (by decide) ?_
    refine xp_6 cx hI dX0_undo_20 (fun H locs hI => ?_)
    exact ke_x (by simp [xfUndo, c_1]) (ke_v cx hr hlk hI (Nat.zero_le _) (Nat.zero_le _) dX0_undo_23 rfl rfl)
  · exact kt_ise cx hlS hlk htab hE hI (hl.1.trans hml.symm) (show (144, "the phase is not CUT") ∈ kstrs by decide) dX0_undo_8 dX0_undo_11 dX0_undo_12 dX0_undo_14 dX0_undo_17 ⟨Nat.le_of_ble_eq_true rfl, Nat.le_of_ble_eq_true rfl⟩ ⟨Nat.le_of_ble_eq_true rfl, Nat.le_of_ble_eq_true rfl⟩ (⟨(by simp [xfUndo, c_1]), rfl⟩)
set_option maxHeartbeats 4000000 in
set_option maxRecDepth 100000 in
theorem kX0_finish (l : Launch) (D : va_G) (ca : Nat → ClassId) (ad : Nat → Nat) (v : XS) (hlS : l.stackTraces = false) : CX l yX0_finish cX0_finish 2 (some .int) (KR1 6 82) D ca (xw ad ca v) [.ref (ad 0)] (xfUndo v = 0) (some (.int (xRemN v 40))) (xw ad ca (xEnd (xRem v 40))) (fun E => (xfUndo v = 1 ∧ E = "java/lang/IllegalStateException")) := by
  refine CX.of (by decide) (Nat.le_of_ble_eq_true rfl) ?_
  intro p e s m below meth c A ls cx hml hr hlk htab hE hI hl
  have hl : lv_has ls 2 [(0, .ref (ad 0))] := hl
  refine lv_aload_n cx.1 cx.2.1 dX0_finish_0 rfl (lv_at hl 0 rfl) ?_
  refine xg_6 cx hI dX0_finish_1 ?_
  refine lv_iconst (v := 2) cx.1 cx.2.1 dX0_finish_4 (by decide) ?_
  refine lv_icmp_eq (tgt := 18) cx.1 cx.2.1 dX0_finish_5 (by decide) (fun c_1 => ?_) (fun c_1 => ?_)
  · refine lv_aload_n cx.1 cx.2.1 dX0_finish_18 rfl (lv_at hl 0 rfl) ?_
    refine xc_i 0 cx (hl.1.trans hml.symm) (kX0_removeRowsWithoutShadow l D ca ad v) hI wk_357 wk_354 wk_356 wq_19 ⟨rfl, by decide +kernel⟩ rfl ⟨rfl, rfl⟩ ⟨Nat.le_of_ble_eq_true rfl, Nat.le_of_ble_eq_true rfl⟩ (Nat.le_of_ble_eq_true rfl) dX0_finish_19 ⟨Nat.zero_le _, Nat.zero_le _⟩ rfl (fun H locs hI => ?_)
    refine lv_istore_n (lv' := [(1, .int (xRemN v 40)), (0, .ref (ad 0))]) cx.1 cx.2.1 dX0_finish_22 rfl hl (by decide) rfl (fun ls hl => ?_)
    refine lv_aload_n cx.1 cx.2.1 dX0_finish_23 rfl (lv_at hl 1 rfl) ?_
    refine xc_v 0 cx (hl.1.trans hml.symm) (kX0_endChange l D ca ad (xRem v 40)) hI wk_361 wk_358 wk_360 wq_20 ⟨rfl, by decide +kernel⟩ rfl ⟨rfl, rfl⟩ ⟨Nat.le_of_ble_eq_true rfl, Nat.le_of_ble_eq_true rfl⟩ (Nat.le_of_ble_eq_true rfl) dX0_finish_24 ⟨Nat.zero_le _, Nat.zero_le _⟩ rfl (fun H locs hI => ?_)
    refine lv_iload_n cx.1 cx.2.1 dX0_finish_27 rfl (lv_at hl 0 rfl) ?_
    exact ke_x (by simp [xfUndo, c_1]) (ke_i cx hr hlk hI (Nat.zero_le _) (Nat.zero_le _) dX0_finish_28 rfl rfl)
  · exact kt_ise cx hlS hlk htab hE hI (hl.1.trans hml.symm) (show (144, "the phase is not CUT") ∈ kstrs by decide) dX0_finish_8 dX0_finish_11 dX0_finish_12 dX0_finish_14 dX0_finish_17 ⟨Nat.le_of_ble_eq_true rfl, Nat.le_of_ble_eq_true rfl⟩ ⟨Nat.le_of_ble_eq_true rfl, Nat.le_of_ble_eq_true rfl⟩ (⟨(by simp [xfUndo, c_1]), rfl⟩)
set_option maxHeartbeats 4000000 in
set_option maxRecDepth 100000 in
theorem kX0_giveUp (l : Launch) (D : va_G) (ca : Nat → ClassId) (ad : Nat → Nat) (v : XS) (hlS : l.stackTraces = false) : CX l yX0_giveUp cX0_giveUp 2 (some .int) (KR1 6 82) D ca (xw ad ca v) [.ref (ad 0)] (xfGive v = 0) (some (.int (xShRows v 40))) (xw ad ca (xEnd v)) (fun E => (xfGive v = 1 ∧ E = "java/lang/IllegalStateException")) := by
  refine CX.of (by decide) (Nat.le_of_ble_eq_true rfl) ?_
  intro p e s m below meth c A ls cx hml hr hlk htab hE hI hl
  have hl : lv_has ls 2 [(0, .ref (ad 0))] := hl
  refine lv_aload_n cx.1 cx.2.1 dX0_giveUp_0 rfl (lv_at hl 0 rfl) ?_
  refine xg_6 cx hI dX0_giveUp_1 ?_
  refine lv_iconst (v := 1) cx.1 cx.2.1 dX0_giveUp_4 (by decide) ?_
  refine lv_icmp_eq (tgt := 18) cx.1 cx.2.1 dX0_giveUp_5 (by decide) (fun c_1 => ?_) (fun c_1 => ?_)
  · refine lv_aload_n cx.1 cx.2.1 dX0_giveUp_18 rfl (lv_at hl 0 rfl) ?_
    refine xc_i 0 cx (hl.1.trans hml.symm) (kX0_shadowRows l D ca ad v) hI wk_171 wk_366 wk_169 wk_170 ⟨rfl, by decide +kernel⟩ rfl ⟨rfl, rfl⟩ ⟨Nat.le_of_ble_eq_true rfl, Nat.le_of_ble_eq_true rfl⟩ (Nat.le_of_ble_eq_true rfl) dX0_giveUp_19 ⟨Nat.zero_le _, Nat.zero_le _⟩ rfl (fun H locs hI => ?_)
    refine lv_istore_n (lv' := [(1, .int (xShRows v 40)), (0, .ref (ad 0))]) cx.1 cx.2.1 dX0_giveUp_22 rfl hl (by decide) rfl (fun ls hl => ?_)
    refine lv_aload_n cx.1 cx.2.1 dX0_giveUp_23 rfl (lv_at hl 1 rfl) ?_
    refine xc_v 0 cx (hl.1.trans hml.symm) (kX0_endChange l D ca ad v) hI wk_361 wk_358 wk_360 wq_20 ⟨rfl, by decide +kernel⟩ rfl ⟨rfl, rfl⟩ ⟨Nat.le_of_ble_eq_true rfl, Nat.le_of_ble_eq_true rfl⟩ (Nat.le_of_ble_eq_true rfl) dX0_giveUp_24 ⟨Nat.zero_le _, Nat.zero_le _⟩ rfl (fun H locs hI => ?_)
    refine lv_iload_n cx.1 cx.2.1 dX0_giveUp_27 rfl (lv_at hl 0 rfl) ?_
    exact ke_x (by simp [xfGive, c_1]) (ke_i cx hr hlk hI (Nat.zero_le _) (Nat.zero_le _) dX0_giveUp_28 rfl rfl)
  · exact kt_ise cx hlS hlk htab hE hI (hl.1.trans hml.symm) (show (128, "the phase is not COPYING") ∈ kstrs by decide) dX0_giveUp_8 dX0_giveUp_11 dX0_giveUp_12 dX0_giveUp_14 dX0_giveUp_17 ⟨Nat.le_of_ble_eq_true rfl, Nat.le_of_ble_eq_true rfl⟩ ⟨Nat.le_of_ble_eq_true rfl, Nat.le_of_ble_eq_true rfl⟩ (⟨(by simp [xfGive, c_1]), rfl⟩)
set_option maxHeartbeats 4000000 in
set_option maxRecDepth 100000 in
theorem kX0_row (l : Launch) (D : va_G) (ca : Nat → ClassId) (ad : Nat → Nat) (v : XS) (key : Int32) (hlS : l.stackTraces = false) : CX l yX0_row cX0_row 2 (some .int) (KR1 6 82) D ca (xw ad ca v) [.ref (ad 0), .int key] (xfKey key = 0) (some (.int (if xSeen v key then xRow v key else -1))) (xw ad ca v) (fun E => (xfKey key = 1 ∧ E = "java/lang/IndexOutOfBoundsException")) := by
  refine CX.of (by decide) (Nat.le_of_ble_eq_true rfl) ?_
  intro p e s m below meth c A ls cx hml hr hlk htab hE hI hl
  have hl : lv_has ls 2 [(0, .ref (ad 0)), (1, .int key)] := hl
  refine lv_iload_n cx.1 cx.2.1 dX0_row_0 rfl (lv_at hl 1 rfl) ?_
  refine ks_i 1 cx (hl.1.trans hml.symm) (kX0_isKey l D ca key) hI wk_89 wk_87 wk_88 wk_1 ⟨by decide, by decide, by decide +kernel⟩ rfl ⟨rfl, rfl⟩ ⟨Nat.le_of_ble_eq_true rfl, Nat.le_of_ble_eq_true rfl⟩ (Nat.le_of_ble_eq_true rfl) dX0_row_1 ⟨Nat.zero_le _, Nat.zero_le _⟩ rfl (fun H locs hI => ?_)
  refine kb_ne (tgt := 17) cx dX0_row_4 (by decide) (fun c_1 => ?_) (fun c_1 => ?_)
  · have hk : vp_in key 40 := xKey_in c_1
    refine lv_aload_n cx.1 cx.2.1 dX0_row_17 rfl (lv_at hl 0 rfl) ?_
    refine lv_iload_n cx.1 cx.2.1 dX0_row_18 rfl (lv_at hl 1 rfl) ?_
    refine xc_i 1 cx (hl.1.trans hml.symm) (kX0_isSeen l D ca ad v key hk) hI wk_248 wk_245 wk_247 wq_10 ⟨rfl, by decide +kernel⟩ rfl ⟨rfl, rfl⟩ ⟨Nat.le_of_ble_eq_true rfl, Nat.le_of_ble_eq_true rfl⟩ (Nat.le_of_ble_eq_true rfl) dX0_row_19 ⟨Nat.zero_le _, Nat.zero_le _⟩ rfl (fun H locs hI => ?_)
    refine kb_eq (tgt := 33) cx dX0_row_22 (by decide) (fun c_2 => ?_) (fun c_2 => ?_)
    · refine lv_iconst (v := (-1)) cx.1 cx.2.1 dX0_row_33 (by decide) ?_
      exact ke_x (by simp [xfKey, c_1, c_2]) (ke_i cx hr hlk hI (Nat.zero_le _) (Nat.zero_le _) dX0_row_34 (congrArg (fun z => some (Value.int z)) (by simp [xfKey, c_1, c_2])) rfl)
    · refine lv_aload_n cx.1 cx.2.1 dX0_row_25 rfl (lv_at hl 0 rfl) ?_
      refine lv_iload_n cx.1 cx.2.1 dX0_row_26 rfl (lv_at hl 1 rfl) ?_
      refine xc_i 1 cx (hl.1.trans hml.symm) (kX0_rowAsNumber l D ca ad v key hk) hI wk_325 wk_322 wk_324 wq_16 ⟨rfl, by decide +kernel⟩ rfl ⟨rfl, rfl⟩ ⟨Nat.le_of_ble_eq_true rfl, Nat.le_of_ble_eq_true rfl⟩ (Nat.le_of_ble_eq_true rfl) dX0_row_27 ⟨Nat.zero_le _, Nat.zero_le _⟩ rfl (fun H locs hI => ?_)
      refine lv_goto (tgt := 34) cx.1 cx.2.1 dX0_row_30 (by decide) ?_
      exact ke_x (by simp [xfKey, c_1, c_2]) (ke_i cx hr hlk hI (Nat.zero_le _) (Nat.zero_le _) dX0_row_34 (congrArg (fun z => some (Value.int z)) (by simp [xfKey, c_1, c_2])) rfl)
  · exact kt_iob cx hlS hlk htab hE hI (hl.1.trans hml.symm) (show (50, "there is no such key") ∈ kstrs by decide) dX0_row_7 dX0_row_10 dX0_row_11 dX0_row_13 dX0_row_16 ⟨Nat.le_of_ble_eq_true rfl, Nat.le_of_ble_eq_true rfl⟩ ⟨Nat.le_of_ble_eq_true rfl, Nat.le_of_ble_eq_true rfl⟩ (⟨(by simp [xfKey, c_1]), rfl⟩)
set_option maxHeartbeats 4000000 in
set_option maxRecDepth 100000 in
theorem kX0_shadow (l : Launch) (D : va_G) (ca : Nat → ClassId) (ad : Nat → Nat) (v : XS) (key col : Int32) (hlS : l.stackTraces = false) : CX l yX0_shadow cX0_shadow 3 (some .int) (KR1 6 82) D ca (xw ad ca v) [.ref (ad 0), .int key, .int col] (xfShadow key col = 0) (some (.int (xC v col.toNatClampNeg key.toNatClampNeg))) (xw ad ca v) (fun E => (xfShadow key col = 1 ∧ E = "java/lang/IndexOutOfBoundsException")) := by
  refine CX.of (by decide) (Nat.le_of_ble_eq_true rfl) ?_
  intro p e s m below meth c A ls cx hml hr hlk htab hE hI hl
  have hl : lv_has ls 3 [(0, .ref (ad 0)), (1, .int key), (2, .int col)] := hl
  refine lv_iload_n cx.1 cx.2.1 dX0_shadow_0 rfl (lv_at hl 1 rfl) ?_
  refine ks_i 1 cx (hl.1.trans hml.symm) (kX0_isKey l D ca key) hI wk_89 wk_87 wk_88 wk_1 ⟨by decide, by decide, by decide +kernel⟩ rfl ⟨rfl, rfl⟩ ⟨Nat.le_of_ble_eq_true rfl, Nat.le_of_ble_eq_true rfl⟩ (Nat.le_of_ble_eq_true rfl) dX0_shadow_1 ⟨Nat.zero_le _, Nat.zero_le _⟩ rfl (fun H locs hI => ?_)
  refine kb_eq (tgt := 14) cx dX0_shadow_4 (by decide) (fun c_1 => ?_) (fun c_1 => ?_)
  · exact kt_iob cx hlS hlk htab hE hI (hl.1.trans hml.symm) (show (158, "there is no such key or column") ∈ kstrs by decide) dX0_shadow_14 dX0_shadow_17 dX0_shadow_18 dX0_shadow_20 dX0_shadow_23 ⟨Nat.le_of_ble_eq_true rfl, Nat.le_of_ble_eq_true rfl⟩ ⟨Nat.le_of_ble_eq_true rfl, Nat.le_of_ble_eq_true rfl⟩ (⟨(by simp [xfShadow, c_1]), rfl⟩)
  · refine lv_iload_n cx.1 cx.2.1 dX0_shadow_7 rfl (lv_at hl 2 rfl) ?_
    refine ks_i 1 cx (hl.1.trans hml.symm) (kX0_isColumn l D ca col) hI wk_95 wk_93 wk_94 wk_1 ⟨by decide, by decide, by decide +kernel⟩ rfl ⟨rfl, rfl⟩ ⟨Nat.le_of_ble_eq_true rfl, Nat.le_of_ble_eq_true rfl⟩ (Nat.le_of_ble_eq_true rfl) dX0_shadow_8 ⟨Nat.zero_le _, Nat.zero_le _⟩ rfl (fun H locs hI => ?_)
    refine kb_ne (tgt := 24) cx dX0_shadow_11 (by decide) (fun c_2 => ?_) (fun c_2 => ?_)
    · have hk : vp_in key 40 := xKey_in c_1
      have hc : vp_in col 3 := xCol_in c_2
      refine lv_aload_n cx.1 cx.2.1 dX0_shadow_24 rfl (lv_at hl 0 rfl) ?_
      refine xg_2 cx hI dX0_shadow_25 ?_
      refine lv_iload_n cx.1 cx.2.1 dX0_shadow_28 rfl (lv_at hl 2 rfl) ?_
      refine xa_cols cx hI hc dX0_shadow_29 ?_
      refine lv_iload_n cx.1 cx.2.1 dX0_shadow_30 rfl (lv_at hl 1 rfl) ?_
      refine xa_col (j := col.toNatClampNeg) cx hI hc rfl hk dX0_shadow_31 ?_
      exact ke_x (by simp [xfShadow, c_1, c_2]) (ke_i cx hr hlk hI (Nat.zero_le _) (Nat.zero_le _) dX0_shadow_32 rfl rfl)
    · exact kt_iob cx hlS hlk htab hE hI (hl.1.trans hml.symm) (show (158, "there is no such key or column") ∈ kstrs by decide) dX0_shadow_14 dX0_shadow_17 dX0_shadow_18 dX0_shadow_20 dX0_shadow_23 ⟨Nat.le_of_ble_eq_true rfl, Nat.le_of_ble_eq_true rfl⟩ ⟨Nat.le_of_ble_eq_true rfl, Nat.le_of_ble_eq_true rfl⟩ (⟨(by simp [xfShadow, c_1, c_2]), rfl⟩)
set_option maxHeartbeats 4000000 in
set_option maxRecDepth 100000 in
theorem kX0_isRefused (l : Launch) (D : va_G) (ca : Nat → ClassId) (ad : Nat → Nat) (v : XS) (key : Int32) (hz : ∀ j : Nat, narrow .boolean (.int (xR v j)) = .int (xR v j)) (hlS : l.stackTraces = false) : CX l yX0_isRefused cX0_isRefused 2 (some .boolean) (KR1 6 82) D ca (xw ad ca v) [.ref (ad 0), .int key] (xfKey key = 0) (some (.int (xR v key.toNatClampNeg))) (xw ad ca v) (fun E => (xfKey key = 1 ∧ E = "java/lang/IndexOutOfBoundsException")) := by
  refine CX.of (by decide) (Nat.le_of_ble_eq_true rfl) ?_
  intro p e s m below meth c A ls cx hml hr hlk htab hE hI hl
  have hl : lv_has ls 2 [(0, .ref (ad 0)), (1, .int key)] := hl
  refine lv_iload_n cx.1 cx.2.1 dX0_isRefused_0 rfl (lv_at hl 1 rfl) ?_
  refine ks_i 1 cx (hl.1.trans hml.symm) (kX0_isKey l D ca key) hI wk_89 wk_87 wk_88 wk_1 ⟨by decide, by decide, by decide +kernel⟩ rfl ⟨rfl, rfl⟩ ⟨Nat.le_of_ble_eq_true rfl, Nat.le_of_ble_eq_true rfl⟩ (Nat.le_of_ble_eq_true rfl) dX0_isRefused_1 ⟨Nat.zero_le _, Nat.zero_le _⟩ rfl (fun H locs hI => ?_)
  refine kb_ne (tgt := 17) cx dX0_isRefused_4 (by decide) (fun c_1 => ?_) (fun c_1 => ?_)
  · have hk : vp_in key 40 := xKey_in c_1
    refine lv_aload_n cx.1 cx.2.1 dX0_isRefused_17 rfl (lv_at hl 0 rfl) ?_
    refine xg_3 cx hI dX0_isRefused_18 ?_
    refine lv_iload_n cx.1 cx.2.1 dX0_isRefused_21 rfl (lv_at hl 1 rfl) ?_
    refine xa_R cx hI hk dX0_isRefused_22 ?_
    exact ke_x (by simp [xfKey, c_1]) (ke_z cx hr hlk hI (Nat.zero_le _) (Nat.zero_le _) dX0_isRefused_23 (hz _) rfl rfl)
  · exact kt_iob cx hlS hlk htab hE hI (hl.1.trans hml.symm) (show (50, "there is no such key") ∈ kstrs by decide) dX0_isRefused_7 dX0_isRefused_10 dX0_isRefused_11 dX0_isRefused_13 dX0_isRefused_16 ⟨Nat.le_of_ble_eq_true rfl, Nat.le_of_ble_eq_true rfl⟩ ⟨Nat.le_of_ble_eq_true rfl, Nat.le_of_ble_eq_true rfl⟩ (⟨(by simp [xfKey, c_1]), rfl⟩)
set_option maxHeartbeats 4000000 in
set_option maxRecDepth 100000 in
theorem kX0_sum (l : Launch) (D : va_G) (ca : Nat → ClassId) (ad : Nat → Nat) (v : XS) (col : Int32) (hlS : l.stackTraces = false) : CX l yX0_sum cX0_sum 4 (some .int) (KR1 6 82) D ca (xw ad ca v) [.ref (ad 0), .int col] (xfCol col = 0) (some (.int (xSum v col 40))) (xw ad ca v) (fun E => (xfCol col = 1 ∧ E = "java/lang/IndexOutOfBoundsException")) := by
  refine CX.of (by decide) (Nat.le_of_ble_eq_true rfl) ?_
  intro p e s m below meth c A ls cx hml hr hlk htab hE hI hl
  have hl : lv_has ls 4 [(0, .ref (ad 0)), (1, .int col)] := hl
  refine lv_iload_n cx.1 cx.2.1 dX0_sum_0 rfl (lv_at hl 1 rfl) ?_
  refine ks_i 1 cx (hl.1.trans hml.symm) (kX0_isColumn l D ca col) hI wk_95 wk_93 wk_94 wk_1 ⟨by decide, by decide, by decide +kernel⟩ rfl ⟨rfl, rfl⟩ ⟨Nat.le_of_ble_eq_true rfl, Nat.le_of_ble_eq_true rfl⟩ (Nat.le_of_ble_eq_true rfl) dX0_sum_1 ⟨Nat.zero_le _, Nat.zero_le _⟩ rfl (fun H locs hI => ?_)
  refine kb_ne (tgt := 17) cx dX0_sum_4 (by decide) (fun c_1 => ?_) (fun c_1 => ?_)
  · have hc : vp_in col 3 := xCol_in c_1
    refine lv_iconst (v := 0) cx.1 cx.2.1 dX0_sum_17 (by decide) ?_
    refine lv_istore_n (lv' := [(2, .int 0), (0, .ref (ad 0)), (1, .int col)]) cx.1 cx.2.1 dX0_sum_18 rfl hl (by decide) rfl (fun ls hl => ?_)
    refine lv_iconst (v := 0) cx.1 cx.2.1 dX0_sum_19 (by decide) ?_
    refine lv_istore_n (lv' := [(3, .int 0), (2, .int 0), (0, .ref (ad 0)), (1, .int col)]) cx.1 cx.2.1 dX0_sum_20 rfl hl (by decide) rfl (fun ls hl => ?_)
    refine k_loop 40 (fun i => (xw ad ca v)) (fun i => [(3, .int (nI i)), (2, .int (xSum v col i)), (0, .ref (ad 0)), (1, .int col)]) hI (lv_sub hl [0, 1, 2, 3] rfl) (fun H locs ls hI hl => ?_) (fun i hi H locs ls hI hl ih => ?_)
    · have hI : KI D A (xw ad ca v) s.heap H locs := hI
      have hl : lv_has ls 4 [(3, .int (nI 40)), (2, .int (xSum v col 40)), (0, .ref (ad 0)), (1, .int col)] := hl
      refine lv_iload_n cx.1 cx.2.1 dX0_sum_21 rfl (lv_at hl 0 rfl) ?_
      refine lv_bipush (v := 40) cx.1 cx.2.1 dX0_sum_22 (by decide) ?_
      refine lv_icmp_ge (tgt := 52) cx.1 cx.2.1 dX0_sum_24 (by decide) (fun _ => ?_) (fun h9 => absurd (by decide : (40 : Int32) ≤ nI 40) h9)
      refine lv_iload_n cx.1 cx.2.1 dX0_sum_52 rfl (lv_at hl 1 rfl) ?_
      exact ke_x (by simp [xfCol, c_1]) (ke_i cx hr hlk hI (Nat.zero_le _) (Nat.zero_le _) dX0_sum_53 rfl rfl)
    · have hI : KI D A (xw ad ca v) s.heap H locs := hI
      have hl : lv_has ls 4 [(3, .int (nI i)), (2, .int (xSum v col i)), (0, .ref (ad 0)), (1, .int col)] := hl
      refine lv_iload_n cx.1 cx.2.1 dX0_sum_21 rfl (lv_at hl 0 rfl) ?_
      refine lv_bipush (v := 40) cx.1 cx.2.1 dX0_sum_22 (by decide) ?_
      refine lv_icmp_ge (tgt := 52) cx.1 cx.2.1 dX0_sum_24 (by decide) (fun h9 => absurd h9 (nI_ge hi (by decide))) (fun _ => ?_)
      refine lv_aload_n cx.1 cx.2.1 dX0_sum_27 rfl (lv_at hl 2 rfl) ?_
      refine lv_iload_n cx.1 cx.2.1 dX0_sum_28 rfl (lv_at hl 0 rfl) ?_
      refine xc_i 1 cx (hl.1.trans hml.symm) (kX0_isInShadow l D ca ad v (nI i) (vp_in_nI hi (by decide))) hI wk_175 wk_172 wk_174 wq_1 ⟨rfl, by decide +kernel⟩ rfl ⟨rfl, rfl⟩ ⟨Nat.le_of_ble_eq_true rfl, Nat.le_of_ble_eq_true rfl⟩ (Nat.le_of_ble_eq_true rfl) dX0_sum_29 ⟨Nat.zero_le _, Nat.zero_le _⟩ rfl (fun H locs hI => ?_)
      refine kb_eq (tgt := 46) cx dX0_sum_32 (by decide) (fun c_4 => ?_) (fun c_4 => ?_)
      · refine lv_iinc (v := nI (i + 1)) (lv' := [(3, .int (nI (i + 1))), (2, .int (xSum v col i)), (0, .ref (ad 0)), (1, .int col)]) cx.1 cx.2.1 dX0_sum_46 hl (k := 0) rfl (nI_1 i) (by decide) rfl (fun ls hl => ?_)
        refine lv_goto (tgt := 21) cx.1 cx.2.1 dX0_sum_49 (by decide) ?_
        refine ih _ _ _ ?_ ?_
        · show KI D A (xw ad ca v) s.heap _ _
          exact hI
        · show lv_has _ _ [(3, .int (nI (i + 1))), (2, .int (xSum v col (i + 1))), (0, .ref (ad 0)), (1, .int col)]
          rw [show xSum v col (i + 1) = xSum v col i from (by simp [xfCol, c_4, xSum_t, xSum_f])]
          exact lv_sub hl [0, 1, 2, 3] rfl
      · refine lv_iload_n cx.1 cx.2.1 dX0_sum_35 rfl (lv_at hl 1 rfl) ?_
        refine lv_aload_n cx.1 cx.2.1 dX0_sum_36 rfl (lv_at hl 2 rfl) ?_
        refine xg_2 cx hI dX0_sum_37 ?_
        refine lv_iload_n cx.1 cx.2.1 dX0_sum_40 rfl (lv_at hl 3 rfl) ?_
        refine xa_cols cx hI hc dX0_sum_41 ?_
        refine lv_iload_n cx.1 cx.2.1 dX0_sum_42 rfl (lv_at hl 0 rfl) ?_
        refine xa_col (j := col.toNatClampNeg) cx hI hc rfl (vp_in_nI hi (by decide)) dX0_sum_43 ?_
        refine lv_iadd cx.1 cx.2.1 dX0_sum_44 ?_
        refine lv_istore_n (lv' := [(2, .int ((xSum v col i) + (xC v col.toNatClampNeg (nI i).toNatClampNeg))), (3, .int (nI i)), (0, .ref (ad 0)), (1, .int col)]) cx.1 cx.2.1 dX0_sum_45 rfl hl (by decide) rfl (fun ls hl => ?_)
        refine lv_iinc (v := nI (i + 1)) (lv' := [(3, .int (nI (i + 1))), (2, .int ((xSum v col i) + (xC v col.toNatClampNeg (nI i).toNatClampNeg))), (0, .ref (ad 0)), (1, .int col)]) cx.1 cx.2.1 dX0_sum_46 hl (k := 1) rfl (nI_1 i) (by decide) rfl (fun ls hl => ?_)
        refine lv_goto (tgt := 21) cx.1 cx.2.1 dX0_sum_49 (by decide) ?_
        refine ih _ _ _ ?_ ?_
        · show KI D A (xw ad ca v) s.heap _ _
          exact hI
        · show lv_has _ _ [(3, .int (nI (i + 1))), (2, .int (xSum v col (i + 1))), (0, .ref (ad 0)), (1, .int col)]
          rw [show xSum v col (i + 1) = (xSum v col i) + (xC v col.toNatClampNeg (nI i).toNatClampNeg) from (by simp [xfCol, c_4, xSum_t, xSum_f])]
          exact lv_sub hl [0, 1, 2, 3] rfl
  · exact kt_iob cx hlS hlk htab hE hI (hl.1.trans hml.symm) (show (166, "there is no such column") ∈ kstrs by decide) dX0_sum_7 dX0_sum_10 dX0_sum_11 dX0_sum_13 dX0_sum_16 ⟨Nat.le_of_ble_eq_true rfl, Nat.le_of_ble_eq_true rfl⟩ ⟨Nat.le_of_ble_eq_true rfl, Nat.le_of_ble_eq_true rfl⟩ (⟨(by simp [xfCol, c_1]), rfl⟩)
set_option maxHeartbeats 4000000 in
set_option maxRecDepth 100000 in
theorem kX0_sumAtOnce (l : Launch) (D : va_G) (ca : Nat → ClassId) (ad : Nat → Nat) (v : XS) (col : Int32) (hlS : l.stackTraces = false) : CX l yX0_sumAtOnce cX0_sumAtOnce 5 (some .int) (KR1 6 86) D ca (xw ad ca v) [.ref (ad 0), .int col] (xfCol col = 0) (some (.int (if xp v = 0 then 0 else xSumAt v col 40))) (xw ad ca v) (fun E => (xfCol col = 1 ∧ E = "java/lang/IndexOutOfBoundsException")) := by
  refine CX.of (by decide) (Nat.le_of_ble_eq_true rfl) ?_
  intro p e s m below meth c A ls cx hml hr hlk htab hE hI hl
  have hl : lv_has ls 5 [(0, .ref (ad 0)), (1, .int col)] := hl
  refine lv_iload_n cx.1 cx.2.1 dX0_sumAtOnce_0 rfl (lv_at hl 1 rfl) ?_
  refine ks_i 1 cx (hl.1.trans hml.symm) (kX0_isColumn l D ca col) hI wk_95 wk_93 wk_94 wk_1 ⟨by decide, by decide, by decide +kernel⟩ rfl ⟨rfl, rfl⟩ ⟨Nat.le_of_ble_eq_true rfl, Nat.le_of_ble_eq_true rfl⟩ (Nat.le_of_ble_eq_true rfl) dX0_sumAtOnce_1 ⟨Nat.zero_le _, Nat.zero_le _⟩ rfl (fun H locs hI => ?_)
  refine kb_ne (tgt := 17) cx dX0_sumAtOnce_4 (by decide) (fun c_1 => ?_) (fun c_1 => ?_)
  · refine lv_aload_n cx.1 cx.2.1 dX0_sumAtOnce_17 rfl (lv_at hl 0 rfl) ?_
    refine xg_6 cx hI dX0_sumAtOnce_18 ?_
    refine lv_if_ne (tgt := 26) cx.1 cx.2.1 dX0_sumAtOnce_21 (by decide) (fun c_2 => ?_) (fun c_2 => ?_)
    · refine lv_iconst (v := 0) cx.1 cx.2.1 dX0_sumAtOnce_26 (by decide) ?_
      refine lv_istore_n (lv' := [(2, .int 0), (0, .ref (ad 0)), (1, .int col)]) cx.1 cx.2.1 dX0_sumAtOnce_27 rfl hl (by decide) rfl (fun ls hl => ?_)
      refine lv_iconst (v := 0) cx.1 cx.2.1 dX0_sumAtOnce_28 (by decide) ?_
      refine lv_istore_n (lv' := [(3, .int 0), (2, .int 0), (0, .ref (ad 0)), (1, .int col)]) cx.1 cx.2.1 dX0_sumAtOnce_29 rfl hl (by decide) rfl (fun ls hl => ?_)
      refine k_loop 40 (fun i => (xw ad ca v)) (fun i => [(3, .int (nI i)), (2, .int (xSumAt v col i)), (0, .ref (ad 0)), (1, .int col)]) hI (lv_sub hl [0, 1, 2, 3] rfl) (fun H locs ls hI hl => ?_) (fun i hi H locs ls hI hl ih => ?_)
      · have hI : KI D A (xw ad ca v) s.heap H locs := hI
        have hl : lv_has ls 5 [(3, .int (nI 40)), (2, .int (xSumAt v col 40)), (0, .ref (ad 0)), (1, .int col)] := hl
        refine lv_iload_n cx.1 cx.2.1 dX0_sumAtOnce_30 rfl (lv_at hl 0 rfl) ?_
        refine lv_bipush (v := 40) cx.1 cx.2.1 dX0_sumAtOnce_31 (by decide) ?_
        refine lv_icmp_ge (tgt := 61) cx.1 cx.2.1 dX0_sumAtOnce_33 (by decide) (fun _ => ?_) (fun h9 => absurd (by decide : (40 : Int32) ≤ nI 40) h9)
        refine lv_iload_n cx.1 cx.2.1 dX0_sumAtOnce_61 rfl (lv_at hl 1 rfl) ?_
        exact ke_x (by simp [xfCol, c_1, c_2]) (ke_i cx hr hlk hI (Nat.zero_le _) (Nat.zero_le _) dX0_sumAtOnce_62 (congrArg (fun z => some (Value.int z)) (by simp [xfCol, c_1, c_2])) rfl)
      · have hI : KI D A (xw ad ca v) s.heap H locs := hI
        have hl : lv_has ls 5 [(3, .int (nI i)), (2, .int (xSumAt v col i)), (0, .ref (ad 0)), (1, .int col)] := hl
        refine lv_iload_n cx.1 cx.2.1 dX0_sumAtOnce_30 rfl (lv_at hl 0 rfl) ?_
        refine lv_bipush (v := 40) cx.1 cx.2.1 dX0_sumAtOnce_31 (by decide) ?_
        refine lv_icmp_ge (tgt := 61) cx.1 cx.2.1 dX0_sumAtOnce_33 (by decide) (fun h9 => absurd h9 (nI_ge hi (by decide))) (fun _ => ?_)
        refine lv_aload_n cx.1 cx.2.1 dX0_sumAtOnce_36 rfl (lv_at hl 2 rfl) ?_
        refine lv_iload_n cx.1 cx.2.1 dX0_sumAtOnce_37 rfl (lv_at hl 0 rfl) ?_
        refine lv_iload_n cx.1 cx.2.1 dX0_sumAtOnce_38 rfl (lv_at hl 3 rfl) ?_
        refine xc_i 2 cx (hl.1.trans hml.symm) (kX0_broughtColumn l D ca ad v (nI i) col (vp_in_nI hi (by decide))) hI wk_187 wk_184 wk_186 wq_3 ⟨rfl, by decide +kernel⟩ rfl ⟨rfl, rfl⟩ ⟨Nat.le_of_ble_eq_true rfl, Nat.le_of_ble_eq_true rfl⟩ (Nat.le_of_ble_eq_true rfl) dX0_sumAtOnce_39 ⟨Nat.zero_le _, Nat.zero_le _⟩ rfl (fun H locs hI => ?_)
        refine lv_istore (lv' := [(4, .int (xBro v (nI i) col)), (3, .int (nI i)), (2, .int (xSumAt v col i)), (0, .ref (ad 0)), (1, .int col)]) cx.1 cx.2.1 dX0_sumAtOnce_42 hl (by decide) rfl (fun ls hl => ?_)
        refine lv_iload cx.1 cx.2.1 dX0_sumAtOnce_44 (lv_at hl 0 rfl) ?_
        refine lv_iconst (v := (-1)) cx.1 cx.2.1 dX0_sumAtOnce_46 (by decide) ?_
        refine lv_icmp_eq (tgt := 55) cx.1 cx.2.1 dX0_sumAtOnce_47 (by decide) (fun c_5 => ?_) (fun c_5 => ?_)
        · refine lv_iinc (v := nI (i + 1)) (lv' := [(3, .int (nI (i + 1))), (4, .int (xBro v (nI i) col)), (2, .int (xSumAt v col i)), (0, .ref (ad 0)), (1, .int col)]) cx.1 cx.2.1 dX0_sumAtOnce_55 hl (k := 1) rfl (nI_1 i) (by decide) rfl (fun ls hl => ?_)
          refine lv_goto (tgt := 30) cx.1 cx.2.1 dX0_sumAtOnce_58 (by decide) ?_
          refine ih _ _ _ ?_ ?_
          · show KI D A (xw ad ca v) s.heap _ _
            exact hI
          · show lv_has _ _ [(3, .int (nI (i + 1))), (2, .int (xSumAt v col (i + 1))), (0, .ref (ad 0)), (1, .int col)]
            rw [show xSumAt v col (i + 1) = xSumAt v col i from (by simp [xfCol, c_5, xSumAt_t, xSumAt_f])]
            exact lv_sub hl [0, 2, 3, 4] rfl
        · refine lv_iload_n cx.1 cx.2.1 dX0_sumAtOnce_50 rfl (lv_at hl 2 rfl) ?_
          refine lv_iload cx.1 cx.2.1 dX0_sumAtOnce_51 (lv_at hl 0 rfl) ?_
          refine lv_iadd cx.1 cx.2.1 dX0_sumAtOnce_53 ?_
          refine lv_istore_n (lv' := [(2, .int ((xSumAt v col i) + (xBro v (nI i) col))), (4, .int (xBro v (nI i) col)), (3, .int (nI i)), (0, .ref (ad 0)), (1, .int col)]) cx.1 cx.2.1 dX0_sumAtOnce_54 rfl hl (by decide) rfl (fun ls hl => ?_)
          refine lv_iinc (v := nI (i + 1)) (lv' := [(3, .int (nI (i + 1))), (2, .int ((xSumAt v col i) + (xBro v (nI i) col))), (4, .int (xBro v (nI i) col)), (0, .ref (ad 0)), (1, .int col)]) cx.1 cx.2.1 dX0_sumAtOnce_55 hl (k := 2) rfl (nI_1 i) (by decide) rfl (fun ls hl => ?_)
          refine lv_goto (tgt := 30) cx.1 cx.2.1 dX0_sumAtOnce_58 (by decide) ?_
          refine ih _ _ _ ?_ ?_
          · show KI D A (xw ad ca v) s.heap _ _
            exact hI
          · show lv_has _ _ [(3, .int (nI (i + 1))), (2, .int (xSumAt v col (i + 1))), (0, .ref (ad 0)), (1, .int col)]
            rw [show xSumAt v col (i + 1) = (xSumAt v col i) + (xBro v (nI i) col) from (by simp [xfCol, c_5, xSumAt_t, xSumAt_f])]
            exact lv_sub hl [0, 1, 3, 4] rfl
    · refine lv_iconst (v := 0) cx.1 cx.2.1 dX0_sumAtOnce_24 (by decide) ?_
      exact ke_x (by simp [xfCol, c_1, c_2]) (ke_i cx hr hlk hI (Nat.zero_le _) (Nat.zero_le _) dX0_sumAtOnce_25 (congrArg (fun z => some (Value.int z)) (by simp [xfCol, c_1, c_2])) rfl)
  · exact kt_iob cx hlS hlk htab hE hI (hl.1.trans hml.symm) (show (166, "there is no such column") ∈ kstrs by decide) dX0_sumAtOnce_7 dX0_sumAtOnce_10 dX0_sumAtOnce_11 dX0_sumAtOnce_13 dX0_sumAtOnce_16 ⟨Nat.le_of_ble_eq_true rfl, Nat.le_of_ble_eq_true rfl⟩ ⟨Nat.le_of_ble_eq_true rfl, Nat.le_of_ble_eq_true rfl⟩ (⟨(by simp [xfCol, c_1]), rfl⟩)
end
section
/-! MINE: the constructors. -/
theorem kca_i {D : va_G} {ca : Nat → ClassId} {cA : ClassId} {s : State} (h : va_K D vwCl (ktys ca ++ [(cA, .int)]) s) : cA = ca 0 := by
  have h1 : s.vm.findClass ("[" ++ FieldType.int.toString) = some (ca 0) := (h.2 0 (ca 0, .int) rfl).2
  have h2 : s.vm.findClass ("[" ++ FieldType.int.toString) = some cA := (h.2 3 (cA, .int) rfl).2
  exact Option.some.inj (h2.symm.trans h1)
theorem kca_z {D : va_G} {ca : Nat → ClassId} {cA : ClassId} {s : State} (h : va_K D vwCl (ktys ca ++ [(cA, .boolean)]) s) : cA = ca 1 := by
  have h1 : s.vm.findClass ("[" ++ FieldType.boolean.toString) = some (ca 1) := (h.2 1 (ca 1, .boolean) rfl).2
  have h2 : s.vm.findClass ("[" ++ FieldType.boolean.toString) = some cA := (h.2 3 (cA, .boolean) rfl).2
  exact Option.some.inj (h2.symm.trans h1)
theorem kca_a {D : va_G} {ca : Nat → ClassId} {cA : ClassId} {s : State} (h : va_K D vwCl (ktys ca ++ [(cA, .array .int)]) s) : cA = ca 2 := by
  have h1 : s.vm.findClass ("[" ++ (FieldType.array .int).toString) = some (ca 2) := (h.2 2 (ca 2, .array .int) rfl).2
  have h2 : s.vm.findClass ("[" ++ (FieldType.array .int).toString) = some cA := (h.2 3 (cA, .array .int) rfl).2
  exact Option.some.inj (h2.symm.trans h1)
section KNEW
variable {p : Program} {l : Launch} {e : Env} {R : Room} {s : State} {m : MethodId} {args : Array Value} {below : List Frame} {meth : Method} {c : Code} {H : Heap} {locs : List Loc} {cells slots : Nat} {Q : State → Prop}
variable {cc : ByteArray} {pc : Nat} {ls : Array Slot} {rest : List Value} {D : va_G} {ca : Nat → ClassId} {A : Nat → Prop} {own : String} {w : va_W}
theorem k_newI {n : Int32} (N : Nat) (cx : KC p c cc s args m own D ca) (hI : KI D A w s.heap H locs) (hn : ¬ n < 0) (hN : n.toNatClampNeg = N) (hb : N * componentBytes .int ≤ 536870912) (hf : cells + 1 ≤ R.cells ∧ slots + N ≤ R.slots) (hdg : decode cc pc = .ok (.newarray .int, 2))
    (kk : ∀ q H1, KI D A (w ++ [(q, .inl (ca 0, N, .inl (fun _ => 0)))]) s.heap H1 locs → W p l e R s m args below meth c H1 locs (cells + 1) (slots + N) Q (F0 m (pc + 2) ls (.ref q :: rest))) : W p l e R s m args below meth c H locs cells slots Q (F0 m pc ls (.int n :: rest)) := by
  refine va_newa (atype := .int) (ty := .int) (a0 := (N, .inl (fun _ => 0))) cx.1 cx.2.1 (cx.2.2.2.1 _ wk_65) rfl cx.2.2.2.2 hI.1 hI.2.1 hI.2.2.1 hI.2.2.2 (fun _ => rfl) hn hN hb hf.1 hf.2 hdg (fun q cA H1 hK hP hD hS => ?_)
  have h := kca_i hK
  subst h
  exact kk q H1 ⟨hP, hD, hS, hI.2.2.2⟩
theorem k_newZ {n : Int32} (N : Nat) (cx : KC p c cc s args m own D ca) (hI : KI D A w s.heap H locs) (hn : ¬ n < 0) (hN : n.toNatClampNeg = N) (hb : N * componentBytes .boolean ≤ 536870912) (hf : cells + 1 ≤ R.cells ∧ slots + N ≤ R.slots) (hdg : decode cc pc = .ok (.newarray .boolean, 2))
    (kk : ∀ q H1, KI D A (w ++ [(q, .inl (ca 1, N, .inl (fun _ => 0)))]) s.heap H1 locs → W p l e R s m args below meth c H1 locs (cells + 1) (slots + N) Q (F0 m (pc + 2) ls (.ref q :: rest))) : W p l e R s m args below meth c H locs cells slots Q (F0 m pc ls (.int n :: rest)) := by
  refine va_newa (atype := .boolean) (ty := .boolean) (a0 := (N, .inl (fun _ => 0))) cx.1 cx.2.1 (cx.2.2.2.1 _ wk_66) rfl cx.2.2.2.2 hI.1 hI.2.1 hI.2.2.1 hI.2.2.2 (fun _ => rfl) hn hN hb hf.1 hf.2 hdg (fun q cA H1 hK hP hD hS => ?_)
  have h := kca_z hK
  subst h
  exact kk q H1 ⟨hP, hD, hS, hI.2.2.2⟩
/-- the three columns -/
theorem k_newC (cx : KC p c cc s args m RX0 D ca) (hO : va_AOA .int s) (hI : KI D A w s.heap H locs) (hf : cells + 4 ≤ R.cells ∧ slots + 123 ≤ R.slots) (hdg : decode cc pc = .ok (.multianewarray 16 2, 4))
    (kk : ∀ (q : Nat) (r : Nat → Nat) H1, KI D A ((w ++ [(q, .inl (ca 2, 3, .inr (.inr (.inr (.inr (fun i => if i < 3 then some (r i) else none))))))]) ++ [(r 0, .inl (ca 0, 40, .inl (fun _ => 0))), (r 1, .inl (ca 0, 40, .inl (fun _ => 0))), (r 2, .inl (ca 0, 40, .inl (fun _ => 0)))]) s.heap H1 locs → W p l e R s m args below meth c H1 locs (cells + 4) (slots + 123) Q (F0 m (pc + 4) ls (.ref q :: rest))) : W p l e R s m args below meth c H locs cells slots Q (F0 m pc ls (.int 40 :: .int 3 :: rest)) := by
  have hP : va_P D vwCl (w ++ va_pl [] (fun _ => .inl (ca 0, 40, .inl (fun _ => 0)))) H := by
    rw [show va_pl [] (fun _ => .inl (ca 0, 40, .inl (fun _ => 0))) = ([] : va_W) from rfl, List.append_nil]; exact hI.1
  have hD : va_D A (w ++ va_pl [] (fun _ => .inl (ca 0, 40, .inl (fun _ => 0)))) := by
    rw [show va_pl [] (fun _ => .inl (ca 0, 40, .inl (fun _ => 0))) = ([] : va_W) from rfl, List.append_nil]; exact hI.2.1
  have hcy : s.vm.findClass (FieldType.array .int).toString = some (ca 0) := (cx.2.2.2.2.2 0 (ca 0, .int) rfl).2
  refine va_mna (ty := .int) (N' := 3) (K' := 40) (z := (40, .inl (fun _ => 0))) cx.1 cx.2.1 cx.2.2.1 (cx.2.2.2.1 _ wk_23) hO (cx.2.2.2.1 _ wk_65) hcy cx.2.2.2.2 hP hD hI.2.2.1 hI.2.2.2 (by decide) (by decide) (by decide) (by decide) (by decide) (by decide) (by decide) (by decide) (by decide) hf.1 hf.2 (fun c9 => ?_) hdg (fun q r cA H1 hr hn hK hP1 hD1 hS1 => ?_)
  · unfold Jvm.Free.Multi.innerC; rw [arrV_new]; rfl
  · have h := kca_a hK
    subst h
    have e0 : va_pl ([] ++ (List.range 3).map r) (vr_up (fun _ => (.inl (ca 0, 40, .inl (fun _ => 0)) : va_E)) ((List.range 3).map r) (.inl (ca 0, 40, .inl (fun _ => 0)))) = [(r 0, .inl (ca 0, 40, .inl (fun _ => 0))), (r 1, .inl (ca 0, 40, .inl (fun _ => 0))), (r 2, .inl (ca 0, 40, .inl (fun _ => 0)))] := by
      simp [va_pl, vr_up, List.range, List.range.loop]
    rw [e0] at hP1 hD1
    exact kk q r H1 ⟨hP1, hD1, hS1, hI.2.2.2⟩
end KNEW
/-- a new object's cells -/
def kad (L : List Nat) : Nat → Nat := fun i => L.getD i 0
def xZ : XS := (fun _ => 0, fun _ => 0, fun _ => 0, fun _ => 0, fun _ => 0, fun _ => 0, fun _ => 0, 0, 0, 0, 0, 0, 0, 0)
def xNew : XS := xUl (xUk (xUp (xClr (xUA xZ (kFill 40 (-1) (xA xZ))) 3) 0) 8) 10
def xFs : List Value := [.null, .null, .null, .null, .null, .int 0, .int 0, .int 0, .int 0, .int 0, .int 0, .int 0]
/-- a constructor's contract: out of its bare cell it makes the world wF, at addresses of its own -/
def CN (l : Launch) (y : MethodName) (cd : ByteArray) (ml : Nat) (rm : Room) (D : va_G) (ca : Nat → ClassId) (a0 ci : Nat) (fs : List Value) (wF : (Nat → Nat) → va_W) (mc ms : Nat) : Prop :=
  ∀ sz : Nat, Met l y (.code y cd ml none :: WL) rm (va_Pc [.ref a0] (fun U => U.heap.size = sz ∧ va_P D vwCl [(a0, .inr (ci, fs))] U.heap ∧ va_K D vwCl (ktys ca) U ∧ va_D (fun _ => True) [(a0, .inr (ci, fs))] ∧ va_AOA .int U)) (fun _ st oc t => oc = .returned none ∧ (∃ ad : Nat → Nat, ad 0 = a0 ∧ va_P D vwCl (wF ad) t.heap ∧ va_D (va_A [(a0, .inr (ci, fs))] sz) (wF ad)) ∧ va_F (va_A [(a0, .inr (ci, fs))] sz) st t) mc ms (va_A [(a0, .inr (ci, fs))] sz)
theorem CN.of {l : Launch} {y : MethodName} {cd : ByteArray} {ml : Nat} {rm : Room} {D : va_G} {ca : Nat → ClassId} {a0 ci : Nat} {fs : List Value} {wF : (Nat → Nat) → va_W} {mc ms : Nat} (hy : plainName y.cls = true) (hin : y.name = "<init>") (hn : (lg_sl [.ref a0]).length ≤ ml)
    (body : ∀ (p : Program) (e : Env) (s : State) (m : MethodId) (below : List Frame) (meth : Method) (c : Code) (A : Nat → Prop) (ls : Array Slot), KC p c cd s [Value.ref a0].toArray m y.cls D ca → c.maxLocals = ml → meth.sig.returnType = none → meth.locks = false → meth.name = "<init>" → va_AOA .int s → KI D A [(a0, .inr (ci, fs))] s.heap s.heap [] → lv_has ls ml (lv_args 0 [.ref a0]) →
      W p l e rm s m [Value.ref a0].toArray below meth c s.heap [] 0 0 (MQ below (fun _ st oc t => oc = .returned none ∧ (∃ ad : Nat → Nat, ad 0 = a0 ∧ va_P D vwCl (wF ad) t.heap ∧ va_D A (wF ad)) ∧ va_F A st t) [Value.ref a0].toArray s mc ms A) (F0 m 0 ls [])) : CN l y cd ml rm D ca a0 ci fs wF mc ms := by
  intro sz
  refine Met.ofW (cc := cd) (maxL := ml) (ret := none) hy rfl ?_
  intro p e s m args below meth c s₁ B hml hv
  obtain ⟨rfl, hsz, hP, hK, hD0, hO⟩ := hv
  have hts := atoms_spec (ws := .code y cd ml none :: WL) B.pre
  have hown : s.vm.findClass y.cls = some m.cls := findClass_of_methodNamed B.named
  subst hsz
  have hD := hD0.self (sz := s.heap.size)
  have hl := lv_entry [.ref a0] (n := ml) hn
  rw [lg_entry_eq]
  exact body p e s m below meth c _ _ ⟨B.exec, B.bytes, hown, fun w hw => hts w (List.mem_cons_of_mem _ hw), hK⟩ hml B.returns B.notSynchronized ((name_of_methodNamed B.named B.method).1.trans hin) hO ⟨hP, hD, va_S.rf, fun q h => Or.inr h⟩ hl

set_option maxHeartbeats 4000000 in
set_option maxRecDepth 100000 in
theorem kX0_init (l : Launch) (D : va_G) (ca : Nat → ClassId) (a0 : Nat) : CN l yX0_init cX0_init 5 { frames := 1, cells := 8, slots := 1267, locals := 23 } D ca a0 0 xFs (fun ad => xw ad ca xNew) 8 1267 := by
  refine CN.of (by decide) rfl (Nat.le_of_ble_eq_true rfl) ?_
  intro p e s m below meth c A ls cx hml hr hlk hin hO hI hl
  generalize hlocs : ([] : List Loc) = locs at hI ⊢
  have hl : lv_has ls 5 [(0, .ref a0)] := hl
  refine lv_aload_n cx.1 cx.2.1 dX0_init_0 rfl (lv_at hl 0 rfl) ?_
  refine W.objInit cx.1 cx.2.1 cx.2.2.1 (cx.2.2.2.1 _ wk_20) (cx.2.2.2.1 _ wk_21) (cx.2.2.2.1 _ wk_22) rfl (by rw [hml]; exact hl.1) rfl dX0_init_1 (Nat.le_of_ble_eq_true rfl) (Nat.le_of_ble_eq_true rfl) ?_
  refine W.eq (g2 := F0 m 4 ls []) rfl ?_
  refine lv_aload_n cx.1 cx.2.1 dX0_init_4 rfl (lv_at hl 0 rfl) ?_
  refine lv_bipush (v := 40) cx.1 cx.2.1 dX0_init_5 (by decide) ?_
  refine k_newI 40 cx hI (by decide) (by decide) (by decide) ⟨Nat.le_of_ble_eq_true rfl, Nat.le_of_ble_eq_true rfl⟩ dX0_init_7 (fun q1 H hI => ?_)
  have hI : KI D A [(a0, .inr (0, [.null, .null, .null, .null, .null, .int 0, .int 0, .int 0, .int 0, .int 0, .int 0, .int 0])), (q1, .inl (ca 0, 40, .inl (fun _ => 0)))] s.heap H locs := hI
  refine va_putF (D := D) (ci := 0) (v := .ref q1) (ty := .array .int) (C := RX0) (T := TX0) (N := 12) cx.1 cx.2.1 cx.2.2.2.1 wk_X0 tyX0 tyX0_ok nmX0 cx.2.2.1 cx.2.2.2.2 hI.1 hI.2.1 hI.2.2.1 0 rfl rfl 0 (by decide) (cx.2.2.2.1 _ wk_28) (fun _ h9 => h9) rfl hin rfl (by decide +kernel) rfl rfl (Nat.le_of_ble_eq_true rfl) dX0_init_9 (fun H locs hP hD hS => ?_)
  have hI : KI D A [(a0, .inr (0, [.ref q1, .null, .null, .null, .null, .int 0, .int 0, .int 0, .int 0, .int 0, .int 0, .int 0])), (q1, .inl (ca 0, 40, .inl (fun _ => 0)))] s.heap H locs := ⟨hP, hD, hS, hI.2.2.2⟩
  refine lv_aload_n cx.1 cx.2.1 dX0_init_12 rfl (lv_at hl 0 rfl) ?_
  refine lv_bipush (v := 40) cx.1 cx.2.1 dX0_init_13 (by decide) ?_
  refine k_newI 40 cx hI (by decide) (by decide) (by decide) ⟨Nat.le_of_ble_eq_true rfl, Nat.le_of_ble_eq_true rfl⟩ dX0_init_15 (fun q2 H hI => ?_)
  have hI : KI D A [(a0, .inr (0, [.ref q1, .null, .null, .null, .null, .int 0, .int 0, .int 0, .int 0, .int 0, .int 0, .int 0])), (q1, .inl (ca 0, 40, .inl (fun _ => 0))), (q2, .inl (ca 0, 40, .inl (fun _ => 0)))] s.heap H locs := hI
  refine va_putF (D := D) (ci := 0) (v := .ref q2) (ty := .array .int) (C := RX0) (T := TX0) (N := 12) cx.1 cx.2.1 cx.2.2.2.1 wk_X0 tyX0 tyX0_ok nmX0 cx.2.2.1 cx.2.2.2.2 hI.1 hI.2.1 hI.2.2.1 0 rfl rfl 1 (by decide) (cx.2.2.2.1 _ wk_29) (fun _ h9 => h9) rfl hin rfl (by decide +kernel) rfl rfl (Nat.le_of_ble_eq_true rfl) dX0_init_17 (fun H locs hP hD hS => ?_)
  have hI : KI D A [(a0, .inr (0, [.ref q1, .ref q2, .null, .null, .null, .int 0, .int 0, .int 0, .int 0, .int 0, .int 0, .int 0])), (q1, .inl (ca 0, 40, .inl (fun _ => 0))), (q2, .inl (ca 0, 40, .inl (fun _ => 0)))] s.heap H locs := ⟨hP, hD, hS, hI.2.2.2⟩
  refine lv_aload_n cx.1 cx.2.1 dX0_init_20 rfl (lv_at hl 0 rfl) ?_
  refine lv_iconst (v := 3) cx.1 cx.2.1 dX0_init_21 (by decide) ?_
  refine lv_bipush (v := 40) cx.1 cx.2.1 dX0_init_22 (by decide) ?_
  refine k_newC cx hO hI ⟨Nat.le_of_ble_eq_true rfl, Nat.le_of_ble_eq_true rfl⟩ dX0_init_24 (fun q3 r H hI => ?_)
  have hI : KI D A [(a0, .inr (0, [.ref q1, .ref q2, .null, .null, .null, .int 0, .int 0, .int 0, .int 0, .int 0, .int 0, .int 0])), (q1, .inl (ca 0, 40, .inl (fun _ => 0))), (q2, .inl (ca 0, 40, .inl (fun _ => 0))), (q3, .inl (ca 2, 3, .inr (.inr (.inr (.inr (fun i => if i < 3 then some (r i) else none)))))), (r 0, .inl (ca 0, 40, .inl (fun _ => 0))), (r 1, .inl (ca 0, 40, .inl (fun _ => 0))), (r 2, .inl (ca 0, 40, .inl (fun _ => 0)))] s.heap H locs := hI
  refine va_putF (D := D) (ci := 0) (v := .ref q3) (ty := .array (.array .int)) (C := RX0) (T := TX0) (N := 12) cx.1 cx.2.1 cx.2.2.2.1 wk_X0 tyX0 tyX0_ok nmX0 cx.2.2.1 cx.2.2.2.2 hI.1 hI.2.1 hI.2.2.1 0 rfl rfl 2 (by decide) (cx.2.2.2.1 _ wk_30) (fun _ h9 => h9) rfl hin rfl (by decide +kernel) rfl rfl (Nat.le_of_ble_eq_true rfl) dX0_init_28 (fun H locs hP hD hS => ?_)
  have hI : KI D A [(a0, .inr (0, [.ref q1, .ref q2, .ref q3, .null, .null, .int 0, .int 0, .int 0, .int 0, .int 0, .int 0, .int 0])), (q1, .inl (ca 0, 40, .inl (fun _ => 0))), (q2, .inl (ca 0, 40, .inl (fun _ => 0))), (q3, .inl (ca 2, 3, .inr (.inr (.inr (.inr (fun i => if i < 3 then some (r i) else none)))))), (r 0, .inl (ca 0, 40, .inl (fun _ => 0))), (r 1, .inl (ca 0, 40, .inl (fun _ => 0))), (r 2, .inl (ca 0, 40, .inl (fun _ => 0)))] s.heap H locs := ⟨hP, hD, hS, hI.2.2.2⟩
  refine lv_aload_n cx.1 cx.2.1 dX0_init_31 rfl (lv_at hl 0 rfl) ?_
  refine lv_bipush (v := 40) cx.1 cx.2.1 dX0_init_32 (by decide) ?_
  refine k_newZ 40 cx hI (by decide) (by decide) (by decide) ⟨Nat.le_of_ble_eq_true rfl, Nat.le_of_ble_eq_true rfl⟩ dX0_init_34 (fun q7 H hI => ?_)
  have hI : KI D A [(a0, .inr (0, [.ref q1, .ref q2, .ref q3, .null, .null, .int 0, .int 0, .int 0, .int 0, .int 0, .int 0, .int 0])), (q1, .inl (ca 0, 40, .inl (fun _ => 0))), (q2, .inl (ca 0, 40, .inl (fun _ => 0))), (q3, .inl (ca 2, 3, .inr (.inr (.inr (.inr (fun i => if i < 3 then some (r i) else none)))))), (r 0, .inl (ca 0, 40, .inl (fun _ => 0))), (r 1, .inl (ca 0, 40, .inl (fun _ => 0))), (r 2, .inl (ca 0, 40, .inl (fun _ => 0))), (q7, .inl (ca 1, 40, .inl (fun _ => 0)))] s.heap H locs := hI
  refine va_putF (D := D) (ci := 0) (v := .ref q7) (ty := .array .boolean) (C := RX0) (T := TX0) (N := 12) cx.1 cx.2.1 cx.2.2.2.1 wk_X0 tyX0 tyX0_ok nmX0 cx.2.2.1 cx.2.2.2.2 hI.1 hI.2.1 hI.2.2.1 0 rfl rfl 3 (by decide) (cx.2.2.2.1 _ wk_31) (fun _ h9 => h9) rfl hin rfl (by decide +kernel) rfl rfl (Nat.le_of_ble_eq_true rfl) dX0_init_36 (fun H locs hP hD hS => ?_)
  have hI : KI D A [(a0, .inr (0, [.ref q1, .ref q2, .ref q3, .ref q7, .null, .int 0, .int 0, .int 0, .int 0, .int 0, .int 0, .int 0])), (q1, .inl (ca 0, 40, .inl (fun _ => 0))), (q2, .inl (ca 0, 40, .inl (fun _ => 0))), (q3, .inl (ca 2, 3, .inr (.inr (.inr (.inr (fun i => if i < 3 then some (r i) else none)))))), (r 0, .inl (ca 0, 40, .inl (fun _ => 0))), (r 1, .inl (ca 0, 40, .inl (fun _ => 0))), (r 2, .inl (ca 0, 40, .inl (fun _ => 0))), (q7, .inl (ca 1, 40, .inl (fun _ => 0)))] s.heap H locs := ⟨hP, hD, hS, hI.2.2.2⟩
  refine lv_aload_n cx.1 cx.2.1 dX0_init_39 rfl (lv_at hl 0 rfl) ?_
  refine lv_sipush (v := 1024) cx.1 cx.2.1 dX0_init_40 (by decide) ?_
  refine k_newI 1024 cx hI (by decide) (by decide) (by decide) ⟨Nat.le_of_ble_eq_true rfl, Nat.le_of_ble_eq_true rfl⟩ dX0_init_43 (fun q8 H hI => ?_)
  have hI : KI D A [(a0, .inr (0, [.ref q1, .ref q2, .ref q3, .ref q7, .null, .int 0, .int 0, .int 0, .int 0, .int 0, .int 0, .int 0])), (q1, .inl (ca 0, 40, .inl (fun _ => 0))), (q2, .inl (ca 0, 40, .inl (fun _ => 0))), (q3, .inl (ca 2, 3, .inr (.inr (.inr (.inr (fun i => if i < 3 then some (r i) else none)))))), (r 0, .inl (ca 0, 40, .inl (fun _ => 0))), (r 1, .inl (ca 0, 40, .inl (fun _ => 0))), (r 2, .inl (ca 0, 40, .inl (fun _ => 0))), (q7, .inl (ca 1, 40, .inl (fun _ => 0))), (q8, .inl (ca 0, 1024, .inl (fun _ => 0)))] s.heap H locs := hI
  refine va_putF (D := D) (ci := 0) (v := .ref q8) (ty := .array .int) (C := RX0) (T := TX0) (N := 12) cx.1 cx.2.1 cx.2.2.2.1 wk_X0 tyX0 tyX0_ok nmX0 cx.2.2.1 cx.2.2.2.2 hI.1 hI.2.1 hI.2.2.1 0 rfl rfl 4 (by decide) (cx.2.2.2.1 _ wk_32) (fun _ h9 => h9) rfl hin rfl (by decide +kernel) rfl rfl (Nat.le_of_ble_eq_true rfl) dX0_init_45 (fun H locs hP hD hS => ?_)
  have hI : KI D A [(a0, .inr (0, [.ref q1, .ref q2, .ref q3, .ref q7, .ref q8, .int 0, .int 0, .int 0, .int 0, .int 0, .int 0, .int 0])), (q1, .inl (ca 0, 40, .inl (fun _ => 0))), (q2, .inl (ca 0, 40, .inl (fun _ => 0))), (q3, .inl (ca 2, 3, .inr (.inr (.inr (.inr (fun i => if i < 3 then some (r i) else none)))))), (r 0, .inl (ca 0, 40, .inl (fun _ => 0))), (r 1, .inl (ca 0, 40, .inl (fun _ => 0))), (r 2, .inl (ca 0, 40, .inl (fun _ => 0))), (q7, .inl (ca 1, 40, .inl (fun _ => 0))), (q8, .inl (ca 0, 1024, .inl (fun _ => 0)))] s.heap H locs := ⟨hP, hD, hS, hI.2.2.2⟩
  obtain ⟨ad, had⟩ : ∃ ad : Nat → Nat, ad = kad [a0, q1, q2, q3, r 0, r 1, r 2, q7, q8] := ⟨_, rfl⟩
  have e0 : ad 0 = a0 := by rw [had]; rfl
  have hc : (fun i => if i < 3 then some (r i) else none : Nat → Option Nat) = xcols ad := by
    funext i
    simp only [xcols]
    by_cases hi : i < 3
    · rw [if_pos hi, if_pos hi, had]
      rcases (show i = 0 ∨ i = 1 ∨ i = 2 by omega) with rfl | rfl | rfl <;> rfl
    · rw [if_neg hi, if_neg hi]
  rw [hc] at hI
  have f0 : ad 0 = a0 := by rw [had]; rfl
  have f1 : ad 1 = q1 := by rw [had]; rfl
  have f2 : ad 2 = q2 := by rw [had]; rfl
  have f3 : ad 3 = q3 := by rw [had]; rfl
  have f4 : ad 4 = r 0 := by rw [had]; rfl
  have f5 : ad 5 = r 1 := by rw [had]; rfl
  have f6 : ad 6 = r 2 := by rw [had]; rfl
  have f7 : ad 7 = q7 := by rw [had]; rfl
  have f8 : ad 8 = q8 := by rw [had]; rfl
  have hJ : KI D A (xw ad ca xZ) s.heap H locs := by unfold xw; rw [f0, f1, f2, f3, f4, f5, f6, f7, f8]; exact hI
  clear f0 f1 f2 f3 f4 f5 f6 f7 f8 hc had
  clear hI
  subst e0
  have hI := hJ
  refine lv_aload_n cx.1 cx.2.1 dX0_init_48 rfl (lv_at hl 0 rfl) ?_
  refine xg_0 cx hI dX0_init_49 ?_
  refine lv_iconst (v := (-1)) cx.1 cx.2.1 dX0_init_52 (by decide) ?_
  refine k_fillAt ((xw ad ca xZ).take 1) ((xw ad ca xZ).drop 2) (n := 40) (W1 := xw ad ca (xUA xZ (kFill 40 (-1) (xA xZ)))) (by decide) cx (hl.1.trans hml.symm) hI rfl rfl wk_25 ⟨Nat.le_of_ble_eq_true rfl, Nat.le_of_ble_eq_true rfl⟩ (Nat.zero_le _) dX0_init_53 ⟨Nat.le_of_ble_eq_true rfl, Nat.le_of_ble_eq_true rfl⟩ (fun H locs hI => ?_)
  refine lv_aload_n cx.1 cx.2.1 dX0_init_56 rfl (lv_at hl 0 rfl) ?_
  refine xg_2 cx hI dX0_init_57 ?_
  refine lv_astore_n (lv' := [(1, .ref (ad 3)), (0, .ref (ad 0))]) cx.1 cx.2.1 dX0_init_60 rfl hl (by decide) rfl (fun ls hl => ?_)
  refine lv_aload_n cx.1 cx.2.1 dX0_init_61 rfl (lv_at hl 0 rfl) ?_
  refine xl_cols cx hI dX0_init_62 ?_
  refine lv_istore_n (lv' := [(2, .int 3), (1, .ref (ad 3)), (0, .ref (ad 0))]) cx.1 cx.2.1 dX0_init_63 rfl hl (by decide) rfl (fun ls hl => ?_)
  refine lv_iconst (v := 0) cx.1 cx.2.1 dX0_init_64 (by decide) ?_
  refine lv_istore_n (lv' := [(3, .int 0), (2, .int 3), (1, .ref (ad 3)), (0, .ref (ad 0))]) cx.1 cx.2.1 dX0_init_65 rfl hl (by decide) rfl (fun ls hl => ?_)
  refine k_loop 3 (fun i => (xw ad ca (xClr (xUA xZ (kFill 40 (-1) (xA xZ))) i))) (fun i => [(3, .int (nI i)), (2, .int 3), (1, .ref (ad 3)), (0, .ref (ad 0))]) hI (lv_sub hl [0, 1, 2, 3] rfl) (fun H locs ls hI hl => ?_) (fun i hi H locs ls hI hl ih => ?_)
  · have hI : KI D A (xw ad ca (xClr (xUA xZ (kFill 40 (-1) (xA xZ))) 3)) s.heap H locs := hI
    have hl : lv_has ls 5 [(3, .int (nI 3)), (2, .int 3), (1, .ref (ad 3)), (0, .ref (ad 0))] := hl
    refine lv_iload_n cx.1 cx.2.1 dX0_init_66 rfl (lv_at hl 0 rfl) ?_
    refine lv_iload_n cx.1 cx.2.1 dX0_init_67 rfl (lv_at hl 1 rfl) ?_
    refine lv_icmp_ge (tgt := 88) cx.1 cx.2.1 dX0_init_68 (by decide) (fun _ => ?_) (fun h9 => absurd (by decide : (3 : Int32) ≤ nI 3) h9)
    refine lv_aload_n cx.1 cx.2.1 dX0_init_88 rfl (lv_at hl 3 rfl) ?_
    refine lv_iconst (v := 0) cx.1 cx.2.1 dX0_init_89 (by decide) ?_
    refine xp_6 cx hI dX0_init_90 (fun H locs hI => ?_)
    refine lv_aload_n cx.1 cx.2.1 dX0_init_93 rfl (lv_at hl 3 rfl) ?_
    refine lv_bipush (v := 8) cx.1 cx.2.1 dX0_init_94 (by decide) ?_
    refine xp_10 cx hI dX0_init_96 (fun H locs hI => ?_)
    refine lv_aload_n cx.1 cx.2.1 dX0_init_99 rfl (lv_at hl 3 rfl) ?_
    refine lv_bipush (v := 10) cx.1 cx.2.1 dX0_init_100 (by decide) ?_
    refine xp_11 cx hI dX0_init_102 (fun H locs hI => ?_)
    refine W.widen (k := 8) (n := 1267) (by omega) (by omega) ?_
    exact W.vret cx.1 cx.2.1 hr (fun t ht hW => ⟨rfl, ⟨ad, rfl, by rw [ht]; exact hI.1, hI.2.1⟩, hI.2.2.1.F ht⟩) hI.2.2.1.2.2 dX0_init_105 hlk
  · have hI : KI D A (xw ad ca (xClr (xUA xZ (kFill 40 (-1) (xA xZ))) i)) s.heap H locs := hI
    have hl : lv_has ls 5 [(3, .int (nI i)), (2, .int 3), (1, .ref (ad 3)), (0, .ref (ad 0))] := hl
    refine lv_iload_n cx.1 cx.2.1 dX0_init_66 rfl (lv_at hl 0 rfl) ?_
    refine lv_iload_n cx.1 cx.2.1 dX0_init_67 rfl (lv_at hl 1 rfl) ?_
    refine lv_icmp_ge (tgt := 88) cx.1 cx.2.1 dX0_init_68 (by decide) (fun h9 => absurd h9 (nI_ge hi (by decide))) (fun _ => ?_)
    refine lv_aload_n cx.1 cx.2.1 dX0_init_71 rfl (lv_at hl 2 rfl) ?_
    refine lv_iload_n cx.1 cx.2.1 dX0_init_72 rfl (lv_at hl 0 rfl) ?_
    refine xa_cols cx hI (vp_in_nI hi (by decide)) dX0_init_73 ?_
    refine lv_astore (lv' := [(4, .ref (ad (4 + (nI i).toNatClampNeg))), (3, .int (nI i)), (2, .int 3), (1, .ref (ad 3)), (0, .ref (ad 0))]) cx.1 cx.2.1 dX0_init_74 hl (by decide) rfl (fun ls hl => ?_)
    refine lv_aload cx.1 cx.2.1 dX0_init_76 (lv_at hl 0 rfl) ?_
    refine lv_iconst (v := (-1)) cx.1 cx.2.1 dX0_init_78 (by decide) ?_
    refine k_fillcol cx (hl.1.trans hml.symm) hI (vp_in_nI hi (by decide)) wk_25 ⟨Nat.le_of_ble_eq_true rfl, Nat.le_of_ble_eq_true rfl⟩ (Nat.zero_le _) dX0_init_79 ⟨Nat.le_of_ble_eq_true rfl, Nat.le_of_ble_eq_true rfl⟩ (fun H locs hI => ?_)
    refine lv_iinc (v := nI (i + 1)) (lv' := [(3, .int (nI (i + 1))), (4, .ref (ad (4 + (nI i).toNatClampNeg))), (2, .int 3), (1, .ref (ad 3)), (0, .ref (ad 0))]) cx.1 cx.2.1 dX0_init_82 hl (k := 1) rfl (nI_1 i) (by decide) rfl (fun ls hl => ?_)
    refine lv_goto (tgt := 66) cx.1 cx.2.1 dX0_init_85 (by decide) ?_
    exact ih _ _ _ hI (lv_sub hl [0, 2, 3, 4] rfl)
end
section
/-! MINE: what holds of the class's state between the law's steps (zX), and that every call keeps it. -/
def zA (v : XS) (j : Nat) : Prop := xA v j = -1 ∨ ∃ a b : Nat, a ≤ 999 ∧ b ≤ 999 ∧ xA v j = nI a ∧ xB v j = nI b
def zS (v : XS) (j : Nat) : Prop := (xC0 v j = -1 ∧ xC1 v j = -1 ∧ xC2 v j = -1) ∨ (∃ x y z : Nat, x < 2 ^ 31 ∧ y < 2 ^ 31 ∧ z < 2 ^ 31 ∧ xC0 v j = nI x ∧ xC1 v j = nI y ∧ xC2 v j = nI z ∧ xR v j = 0)
def zB (v : XS) (j : Nat) : Prop := xC0 v j = xBro v (nI j) 0 ∧ xC1 v j = xBro v (nI j) 1 ∧ xC2 v j = xBro v (nI j) 2 ∧ xR v j = b2i (xOld v (nI j) && !xFits v (xB v j))
def zQ (v : XS) : Prop := ∃ q : Nat, q ≤ 999 ∧ xq v = nI q
def zV (v : XS) : Prop := (∀ j, j < 40 → zA v j ∧ zS v j) ∧ zQ v ∧ (∃ h : Nat, 1 ≤ h ∧ h ≤ 40 ∧ xk v = nI h) ∧ ∀ j : Nat, xR v j = 0 ∨ xR v j = 1
def zN (n c : Nat) (v : XS) : Prop := c ≤ n ∧ xc v = nI c ∧ ∀ j, j < c → vp_in (xN v j) 40
def zP (S : Nat → Prop) (c m : Nat) (v : XS) : Prop := (xp v = 0 ∧ c = 0 ∧ ∀ j, j < 40 → xC0 v j = -1 ∧ xC1 v j = -1 ∧ xC2 v j = -1 ∧ xR v j = 0) ∨ (xp v = 1 ∧ ∀ j, j < m → S j ∨ zB v j ∨ ∃ i, i < c ∧ xN v i = nI j) ∨ (xp v = 2 ∧ c = 0 ∧ m = 40 ∧ ∀ j, j < 40 → S j ∨ zB v j)
def zX (S : Nat → Prop) (n c m : Nat) (v : XS) : Prop := zV v ∧ zN n c v ∧ (m ≤ 40 ∧ xm v = nI m) ∧ zP S c m v
abbrev zE : Nat → Prop := fun _ => False
def zI (n : Nat) (v : XS) : Prop := ∃ c m : Nat, zX zE n c m v
theorem kx {j : Nat} (h : j < 40) : (nI j).toNatClampNeg = j := nI_clamp (by omega)
theorem nI_m1 {n : Nat} (h : n < 2 ^ 31) : nI n ≠ -1 := fun e => nI_pos h (by rw [e]; decide)
theorem i1000 : (1000 : Int32) = nI 1000 := rfl
theorem row_n (a b : Nat) : 1000 * nI a + nI b = nI (1000 * a + b) := by
  rw [i1000, pk_mul, nI_add]
theorem l_dig {b : Nat} : ∃ n : Nat, n < 2 ^ 31 ∧ xDig (nI b) = nI n := by
  unfold xDig
  by_cases h : (10 : Int32) ≤ nI b
  · by_cases h2 : (100 : Int32) ≤ nI b
    · exact ⟨3, by decide, by rw [if_pos h, if_pos h2]; rfl⟩
    · exact ⟨2, by decide, by rw [if_pos h, if_neg h2]; rfl⟩
  · exact ⟨1, by decide, by rw [if_neg h]; rfl⟩
theorem l_altn {v : XS} (hq : zQ v) {a b : Nat} (ha : a ≤ 999) (hb : b ≤ 999) (c : Int32) : ∃ n : Nat, n < 2 ^ 31 ∧ xAlt v (nI a) (nI b) c = nI n := by
  obtain ⟨q, hq, eq⟩ := hq
  unfold xAlt xMid xLast
  by_cases h2 : c = 0
  · rw [if_pos h2]
    by_cases h1 : xt v = 0
    · rw [if_pos h1, show (100 : Int32) = nI 100 from rfl, pk_div (by omega) (by decide) (by decide)]
      exact ⟨_, by omega, rfl⟩
    · rw [if_neg h1]
      exact ⟨_, by omega, rfl⟩
  · rw [if_neg h2]
    by_cases h3 : c = 1
    · rw [if_pos h3]
      by_cases h1 : xt v = 0
      · rw [if_pos h1, show (100 : Int32) = nI 100 from rfl, pk_rem (by omega) (by decide) (by decide)]
        exact ⟨_, by omega, rfl⟩
      · rw [if_neg h1]
        by_cases h4 : xt v = 1
        · rw [if_pos h4]
          exact ⟨_, by omega, rfl⟩
        · rw [if_neg h4, eq, pk_mul]
          exact ⟨_, Nat.lt_of_le_of_lt (Nat.mul_le_mul hb hq) (by decide), rfl⟩
    · rw [if_neg h3]
      by_cases h1 : xt v = 0
      · rw [if_pos h1]
        exact ⟨_, by omega, rfl⟩
      · rw [if_neg h1]
        by_cases h4 : xt v = 1
        · rw [if_pos h4]
          exact ⟨0, by omega, rfl⟩
        · rw [if_neg h4]
          exact l_dig
/-- what is due to be in the shadow -/
def lDue (v : XS) (k : Int32) : Bool := xOld v k && xFits v (xB v k.toNatClampNeg)
theorem l_bro_f {v : XS} {k : Int32} (h : lDue v k = false) (c : Int32) : xBro v k c = -1 := by
  unfold lDue at h
  unfold xBro
  rw [h]
  rfl
theorem l_bro_t {v : XS} (hq : zQ v) {j : Nat} (hj : j < 40) (hA : zA v j) (h : lDue v (nI j) = true) (c : Int32) : ∃ n : Nat, n < 2 ^ 31 ∧ xBro v (nI j) c = nI n := by
  unfold lDue at h
  unfold xBro
  rw [h, if_pos rfl, kx hj]
  rcases hA with e | ⟨a, b, ha, hb, ea, eb⟩
  · unfold xOld at h
    rw [kx hj, e] at h
    simp at h
  · rw [ea, eb]
    exact l_altn hq ha hb c
theorem zB.ls {v : XS} (hq : zQ v) {j : Nat} (hj : j < 40) (hA : zA v j) (h : zB v j) : zS v j := by
  obtain ⟨h0, h1, h2, h3⟩ := h
  cases hd : lDue v (nI j) with
  | false => exact Or.inl ⟨h0.trans (l_bro_f hd 0), h1.trans (l_bro_f hd 1), h2.trans (l_bro_f hd 2)⟩
  | true =>
    obtain ⟨x, hx, ex⟩ := l_bro_t hq hj hA hd 0
    obtain ⟨y, hy, ey⟩ := l_bro_t hq hj hA hd 1
    obtain ⟨z, hz, ez⟩ := l_bro_t hq hj hA hd 2
    refine Or.inr ⟨x, y, z, hx, hy, hz, h0.trans ex, h1.trans ey, h2.trans ez, ?_⟩
    rw [h3]
    unfold lDue at hd
    rw [kx hj] at hd
    have := Bool.and_eq_true_iff.mp hd
    rw [this.1, this.2]
    rfl
theorem xBring_R (v : XS) (k : Int32) : xR (xBring v k) = upd (xR v) k.toNatClampNeg (b2i (xOld v k && !xFits v (xB v k.toNatClampNeg))) := congrArg (upd (xR v) k.toNatClampNeg) (b2i_vp _)
theorem xBring_C (v : XS) (k : Int32) : xC0 (xBring v k) = upd (xC0 v) k.toNatClampNeg (xBro v k 0) ∧ xC1 (xBring v k) = upd (xC1 v) k.toNatClampNeg (xBro v k 1) ∧ xC2 (xBring v k) = upd (xC2 v) k.toNatClampNeg (xBro v k 2) := ⟨rfl, rfl, rfl⟩
theorem xBring_o (v : XS) (k : Int32) : xA (xBring v k) = xA v ∧ xB (xBring v k) = xB v ∧ xN (xBring v k) = xN v ∧ xc (xBring v k) = xc v ∧ xp (xBring v k) = xp v ∧ xm (xBring v k) = xm v ∧ xt (xBring v k) = xt v ∧ xq (xBring v k) = xq v ∧ xk (xBring v k) = xk v ∧ xl (xBring v k) = xl v := ⟨rfl, rfl, rfl, rfl, rfl, rfl, rfl, rfl, rfl, rfl⟩
theorem xBro_bring (v : XS) (k j c : Int32) : xBro (xBring v k) j c = xBro v j c := rfl
theorem zB_self (v : XS) {i : Nat} (hi : i < 40) : zB (xBring v (nI i)) i := by
  unfold zB
  rw [(xBring_C v (nI i)).1, (xBring_C v (nI i)).2.1, (xBring_C v (nI i)).2.2, xBring_R, kx hi, pk_us, pk_us, pk_us, pk_us]
  exact ⟨rfl, rfl, rfl, rfl⟩
theorem zB_other {v : XS} {i j : Nat} (hi : i < 40) (e : j ≠ i) (h : zB v j) : zB (xBring v (nI i)) j := by
  unfold zB
  rw [(xBring_C v (nI i)).1, (xBring_C v (nI i)).2.1, (xBring_C v (nI i)).2.2, xBring_R, kx hi, pk_un e, pk_un e, pk_un e, pk_un e]
  exact h
theorem zB_keep {v : XS} {i j : Nat} (hi : i < 40) (h : zB v j) : zB (xBring v (nI i)) j := by
  by_cases e : j = i
  · subst e
    exact zB_self v hi
  · exact zB_other hi e h
theorem zA_bring {v : XS} {j : Nat} (k : Int32) (h : zA v j) : zA (xBring v k) j := h
theorem zS_other {v : XS} {i j : Nat} (hi : i < 40) (e : j ≠ i) (h : zS v j) : zS (xBring v (nI i)) j := by
  unfold zS
  rw [(xBring_C v (nI i)).1, (xBring_C v (nI i)).2.1, (xBring_C v (nI i)).2.2, xBring_R, kx hi, pk_un e, pk_un e, pk_un e, pk_un e]
  exact h
theorem zV_bring {v : XS} (h : zV v) {i : Nat} (hi : i < 40) : zV (xBring v (nI i)) := by
  obtain ⟨h1, h2, h3, h4⟩ := h
  refine ⟨fun j hj => ⟨(h1 j hj).1, ?_⟩, h2, h3, fun j => ?_⟩
  · by_cases e : j = i
    · subst e
      exact zB.ls (v := xBring v (nI j)) h2 hj (h1 j hj).1 (zB_self v hj)
    · exact zS_other hi e (h1 j hj).2
  · rw [xBring_R]
    by_cases e : j = (nI i).toNatClampNeg
    · rw [e, pk_us]
      cases (xOld v (nI i) && !xFits v (xB v (nI i).toNatClampNeg))
      · exact Or.inl rfl
      · exact Or.inr rfl
    · rw [pk_un e]
      exact h4 j
theorem xPut_A {v : XS} {i j : Nat} (hi : i < 40) (hj : j < 40) (e : j ≠ i) (a b : Int32) : xA (xPut v (nI i) a b) (nI j).toNatClampNeg = xA v (nI j).toNatClampNeg ∧ xB (xPut v (nI i) a b) (nI j).toNatClampNeg = xB v (nI j).toNatClampNeg := by
  show upd (xA v) (nI i).toNatClampNeg a (nI j).toNatClampNeg = _ ∧ upd (xB v) (nI i).toNatClampNeg b (nI j).toNatClampNeg = _
  rw [kx hi, kx hj, pk_un e, pk_un e]
  exact ⟨rfl, rfl⟩
theorem xBro_put {v : XS} {i j : Nat} (hi : i < 40) (hj : j < 40) (e : j ≠ i) (a b c : Int32) : xBro (xPut v (nI i) a b) (nI j) c = xBro v (nI j) c := by
  obtain ⟨h1, h2⟩ := xPut_A (v := v) hi hj e a b
  unfold xBro xOld
  rw [h1, h2]
  rfl
theorem lDue_put {v : XS} {i j : Nat} (hi : i < 40) (hj : j < 40) (e : j ≠ i) (a b : Int32) : lDue (xPut v (nI i) a b) (nI j) = lDue v (nI j) := by
  obtain ⟨h1, h2⟩ := xPut_A (v := v) hi hj e a b
  unfold lDue xOld
  rw [h1, h2]
  rfl
theorem zB_put {v : XS} {i j : Nat} (hi : i < 40) (hj : j < 40) (e : j ≠ i) (a b : Int32) (h : zB v j) : zB (xPut v (nI i) a b) j := by
  obtain ⟨h0, h1, h2, h3⟩ := h
  obtain ⟨g1, g2⟩ := xPut_A (v := v) hi hj e a b
  refine ⟨h0.trans (xBro_put hi hj e a b 0).symm, h1.trans (xBro_put hi hj e a b 1).symm, h2.trans (xBro_put hi hj e a b 2).symm, h3.trans ?_⟩
  rw [kx hj] at g2
  unfold xOld
  rw [g1, g2]
  rfl
theorem zP.mono {S S' : Nat → Prop} {c m : Nat} {v : XS} (hS : ∀ j, S j → S' j) (h : zP S c m v) : zP S' c m v := by
  rcases h with h | ⟨h1, h2⟩ | ⟨h1, h2, h3, h4⟩
  · exact Or.inl h
  · exact Or.inr (Or.inl ⟨h1, fun j hj => (h2 j hj).imp (hS j) id⟩)
  · exact Or.inr (Or.inr ⟨h1, h2, h3, fun j hj => (h4 j hj).imp (hS j) id⟩)
theorem zX.mono {S S' : Nat → Prop} {n n' c m : Nat} {v : XS} (h : zX S n c m v) (hS : ∀ j, S j → S' j) (hn : n ≤ n') : zX S' n' c m v :=
  ⟨h.1, ⟨Nat.le_trans h.2.1.1 hn, h.2.1.2⟩, h.2.2.1, h.2.2.2.mono hS⟩
theorem zI.up {n n' : Nat} {v : XS} (h : zI n v) (hn : n ≤ n') : zI n' v := by
  obtain ⟨c, m, h⟩ := h
  exact ⟨c, m, h.mono (fun _ q => q) hn⟩
def zR (a b : Int32) : Prop := a = -1 ∨ ∃ x y : Nat, x ≤ 999 ∧ y ≤ 999 ∧ a = nI x ∧ b = nI y
theorem zX_put {S : Nat → Prop} {n c m : Nat} {v : XS} (h : zX S n c m v) {i : Nat} (hi : i < 40) {a b : Int32} (hr : zR a b) : zX (fun j => S j ∨ j = i) n c m (xPut v (nI i) a b) := by
  obtain ⟨⟨h1, h2⟩, hN, hm, hp⟩ := h
  refine ⟨⟨fun j hj => ⟨?_, (h1 j hj).2⟩, h2⟩, hN, hm, ?_⟩
  · show upd (xA v) (nI i).toNatClampNeg a j = -1 ∨ ∃ x y : Nat, x ≤ 999 ∧ y ≤ 999 ∧ upd (xA v) (nI i).toNatClampNeg a j = nI x ∧ upd (xB v) (nI i).toNatClampNeg b j = nI y
    rw [kx hi]
    by_cases e : j = i
    · subst e
      rw [pk_us, pk_us]
      exact hr
    · rw [pk_un e, pk_un e]
      exact (h1 j hj).1
  · rcases hp with h | ⟨p1, p2⟩ | ⟨p1, p2, p3, p4⟩
    · exact Or.inl h
    · refine Or.inr (Or.inl ⟨p1, fun j hj => ?_⟩)
      by_cases e : j = i
      · exact Or.inl (Or.inr e)
      · rcases p2 j hj with q | q | q
        · exact Or.inl (Or.inl q)
        · exact Or.inr (Or.inl (zB_put hi (by omega) e a b q))
        · exact Or.inr (Or.inr q)
    · refine Or.inr (Or.inr ⟨p1, p2, p3, fun j hj => ?_⟩)
      by_cases e : j = i
      · exact Or.inl (Or.inr e)
      · rcases p4 j hj with q | q
        · exact Or.inl (Or.inl q)
        · exact Or.inr (zB_put hi hj e a b q)
theorem zX_bring {S : Nat → Prop} {n c m : Nat} {v : XS} (h : zX S n c m v) (hp : xp v ≠ 0) {i : Nat} (hi : i < 40) : zX (fun j => S j ∧ j ≠ i) n c m (xBring v (nI i)) := by
  obtain ⟨hV, hN, hm, h⟩ := h
  refine ⟨zV_bring hV hi, hN, hm, ?_⟩
  rcases h with h | ⟨p1, p2⟩ | ⟨p1, p2, p3, p4⟩
  · exact absurd h.1 hp
  · refine Or.inr (Or.inl ⟨p1, fun j hj => ?_⟩)
    by_cases e : j = i
    · subst e
      exact Or.inr (Or.inl (zB_self v hi))
    · rcases p2 j hj with q | q | q
      · exact Or.inl ⟨q, e⟩
      · exact Or.inr (Or.inl (zB_other hi e q))
      · exact Or.inr (Or.inr q)
  · refine Or.inr (Or.inr ⟨p1, p2, p3, fun j hj => ?_⟩)
    by_cases e : j = i
    · subst e
      exact Or.inr (zB_self v hi)
    · rcases p4 j hj with q | q
      · exact Or.inl ⟨q, e⟩
      · exact Or.inr (zB_other hi e q)
theorem xNote_is {v : XS} {c : Nat} (hc : c < 1024) (h : xc v = nI c) (k : Int32) : xNote v k = xUc (xUN v (upd (xN v) c k)) (nI (c + 1)) := by
  unfold xNote
  rw [if_neg (by rw [h]; exact nI_ge (a := c) (b := 1024) hc (by decide)), h, nI_clamp (by omega), ← nI_1, ← h]
  rfl
theorem zX_note {S : Nat → Prop} {n c m : Nat} {v : XS} (h : zX S n c m v) (hn : n < 1024) (hp : xp v = 1) {i : Nat} (hi : i < 40) : zX (fun j => S j ∧ j ≠ i) (n + 1) (c + 1) m (xNote v (nI i)) := by
  obtain ⟨hV, ⟨n1, n2, n3⟩, hm, h⟩ := h
  rw [xNote_is (by omega) n2]
  refine ⟨hV, ⟨by omega, rfl, fun j hj => ?_⟩, hm, ?_⟩
  · show vp_in (upd (xN v) c (nI i) j) 40
    by_cases e : j = c
    · subst e
      rw [pk_us]
      exact vp_in_nI hi (by decide)
    · rw [pk_un e]
      exact n3 j (by omega)
  · rcases h with h | ⟨p1, p2⟩ | ⟨p1, p2, p3, p4⟩
    · rw [hp] at h
      exact absurd h.1 (by decide)
    · refine Or.inr (Or.inl ⟨p1, fun j hj => ?_⟩)
      by_cases e : j = i
      · subst e
        exact Or.inr (Or.inr ⟨c, Nat.lt_succ_self c, pk_us⟩)
      · rcases p2 j hj with q | q | ⟨i0, q1, q2⟩
        · exact Or.inl ⟨q, e⟩
        · exact Or.inr (Or.inl q)
        · exact Or.inr (Or.inr ⟨i0, by omega, (pk_un (by omega)).trans q2⟩)
    · rw [hp] at p1
      exact absurd p1 (by decide)
theorem zX_follow {S : Nat → Prop} {n c m : Nat} {v : XS} (h : zX S n c m v) (hn : n < 1024) {i : Nat} (hi : i < 40) : ∃ c', zX (fun j => S j ∧ j ≠ i) (n + 1) c' m (xFollow v (nI i)) := by
  unfold xFollow
  by_cases h1 : xp v = 1
  · rw [if_pos h1]
    exact ⟨c + 1, zX_note h hn h1 hi⟩
  · rw [if_neg h1]
    by_cases h2 : xp v = 2
    · rw [if_pos h2]
      exact ⟨c, (zX_bring h (by rw [h2]; decide) hi).mono (fun _ q => q) (Nat.le_succ n)⟩
    · rw [if_neg h2]
      refine ⟨c, h.1, ⟨Nat.le_succ_of_le h.2.1.1, h.2.1.2⟩, h.2.2.1, ?_⟩
      rcases h.2.2.2 with q | ⟨p1, -⟩ | ⟨p1, -⟩
      · exact Or.inl q
      · exact absurd p1 h1
      · exact absurd p1 h2
theorem zI_write {n : Nat} {v : XS} (h : zI n v) (hn : n < 1024) {i : Nat} (hi : i < 40) {a b : Int32} (hr : zR a b) : zI (n + 1) (xFollow (xPut v (nI i) a b) (nI i)) := by
  obtain ⟨c, m, h⟩ := h
  obtain ⟨c', g⟩ := zX_follow (zX_put h hi hr) hn hi
  exact ⟨c', m, g.mono (fun j q => q.1.elim id q.2) (Nat.le_refl _)⟩
theorem kMM {a b : Nat} (ha : a < 40) (hb : b < 40) : (kMin (nI a) (nI b) = nI a ∧ kMax (nI a) (nI b) = nI b) ∨ (kMin (nI a) (nI b) = nI b ∧ kMax (nI a) (nI b) = nI a) := by
  unfold kMin kMax
  by_cases h : a < b
  · rw [if_pos ((nI_ltI (by omega) (by omega)).mpr h), if_neg (fun q => by have := (nI_ltI (by omega) (by omega)).mp q; omega)]
    exact Or.inl ⟨rfl, rfl⟩
  · rw [if_neg (fun q => h ((nI_ltI (by omega) (by omega)).mp q))]
    by_cases h2 : b < a
    · rw [if_pos ((nI_ltI (by omega) (by omega)).mpr h2)]
      exact Or.inr ⟨rfl, rfl⟩
    · have : a = b := by omega
      subst this
      rw [if_neg (fun q => h ((nI_ltI (by omega) (by omega)).mp q))]
      exact Or.inl ⟨rfl, rfl⟩
theorem zI_rekey {n : Nat} {v : XS} (h : zI n v) (hn : n + 1 < 1024) {i j : Nat} (hi : i < 40) (hj : j < 40) (hr : zR (xA v (nI i).toNatClampNeg) (xB v (nI i).toNatClampNeg)) : zI (n + 2) (xRekey v (nI i) (nI j)) := by
  obtain ⟨c, m, h⟩ := h
  have g := zX_put (zX_put h hj hr) hi (a := -1) (b := -1) (Or.inl rfl)
  unfold xRekey
  rcases kMM hi hj with ⟨e1, e2⟩ | ⟨e1, e2⟩ <;> rw [e1, e2]
  · obtain ⟨c1, g1⟩ := zX_follow g (by omega) hi
    obtain ⟨c2, g2⟩ := zX_follow g1 hn hj
    exact ⟨c2, m, g2.mono (fun k q => by
      obtain ⟨⟨(q1 | q1) | q1, q2⟩, q3⟩ := q
      · exact q1
      · exact absurd q1 q3
      · exact absurd q1 q2) (Nat.le_refl _)⟩
  · obtain ⟨c1, g1⟩ := zX_follow g (by omega) hj
    obtain ⟨c2, g2⟩ := zX_follow g1 hn hi
    exact ⟨c2, m, g2.mono (fun k q => by
      obtain ⟨⟨(q1 | q1) | q1, q2⟩, q3⟩ := q
      · exact q1
      · exact absurd q1 q2
      · exact absurd q1 q3) (Nat.le_refl _)⟩
end
section
/-! MINE: ticks, cuts, ends keep what holds. -/
theorem zX_copyL {n c m : Nat} {v : XS} (h : zX zE n c m v) (hp : xp v = 1) : ∀ i, m + i ≤ 40 → zX zE n c m (xCopyL v m i) ∧ xp (xCopyL v m i) = 1 ∧ ∀ j, m ≤ j → j < m + i → zB (xCopyL v m i) j
  | 0, _ => ⟨h, hp, fun j h1 h2 => absurd h2 (by omega)⟩
  | i + 1, hi => by
    obtain ⟨g1, g2, g3⟩ := zX_copyL h hp i (by omega)
    refine ⟨(zX_bring g1 (by rw [g2]; decide) (by omega)).mono (fun _ q => q.1) (Nat.le_refl _), g2, fun j h1 h2 => ?_⟩
    show zB (xBring (xCopyL v m i) (nI (m + i))) j
    by_cases e : j = m + i
    · subst e
      exact zB_self _ (by omega)
    · exact zB_other (by omega) e (g3 j h1 (by omega))
theorem zX_copy {n c m : Nat} {v : XS} (h : zX zE n c m v) (hp : xp v = 1) {i : Nat} (hi : m + i ≤ 40) (he : xCopyE v = nI (m + i)) : zX zE n c (m + i) (xCopy v m i) ∧ ∀ j, m ≤ j → j < m + i → zB (xCopy v m i) j := by
  obtain ⟨⟨gV, gN, gm, gP⟩, g2, g3⟩ := zX_copyL h hp i hi
  refine ⟨⟨gV, gN, ⟨hi, he⟩, Or.inr (Or.inl ⟨g2, fun j hj => ?_⟩)⟩, g3⟩
  rcases gP with q | ⟨-, q⟩ | ⟨q, -⟩
  · rw [q.1] at g2
    exact absurd g2 (by decide)
  · by_cases e : j < m
    · exact q j e
    · exact Or.inr (Or.inl (g3 j (by omega) hj))
  · rw [q] at g2
    exact absurd g2 (by decide)
theorem zX_playL {n c m : Nat} {v : XS} (h : zX zE n c m v) (hp : xp v = 1) (hc : c ≤ 1024) : ∀ i, i ≤ c → zX zE n c m (xPlayL v i) ∧ xp (xPlayL v i) = 1 ∧ ∀ k, k < i → ∀ j, j < 40 → xN v k = nI j → zB (xPlayL v i) j
  | 0, _ => ⟨h, hp, fun k hk => absurd hk (Nat.not_lt_zero k)⟩
  | i + 1, hi => by
    obtain ⟨g1, g2, g3⟩ := zX_playL h hp hc i (by omega)
    obtain ⟨j0, hj0, e0⟩ := vp_in_of (h.2.1.2.2 i (by omega)) (by decide)
    have e1 : xPlayL v (i + 1) = xBring (xPlayL v i) (nI j0) := by
      show xBring (xPlayL v i) (xN (xPlayL v i) (nI i).toNatClampNeg) = _
      rw [xPlayL_N, nI_clamp (by omega), e0]
    rw [e1]
    refine ⟨(zX_bring g1 (by rw [g2]; decide) hj0).mono (fun _ q => q.1) (Nat.le_refl _), g2, fun k hk j hj e => ?_⟩
    by_cases q : k = i
    · subst q
      have : j0 = j := (nI_eq (by omega) (by omega)).mp (e0.symm.trans e)
      subst this
      exact zB_self _ hj0
    · exact zB_keep hj0 (g3 k (by omega) j hj e)
theorem zX_play {n c m : Nat} {v : XS} (h : zX zE n c m v) (hp : xp v = 1) (hc : c ≤ 1024) {cn : Nat} (h1 : cn ≤ c) : zX zE n (c - cn) m (xPlay v cn) := by
  obtain ⟨⟨gV, ⟨n1, n2, n3⟩, gm, gP⟩, g2, g3⟩ := zX_playL h hp hc cn h1
  have hcx : xc (xPlayL v cn) - nI cn = nI (c - cn) := by rw [n2, pk_sub h1]
  have q1 : ∀ j, j < c - cn → xN (xPlay v cn) j = xN v (cn + j) := fun j hj => by
    show va_cpy (xN (xPlayL v cn)) (xN (xPlayL v cn)) (nI cn).toNatClampNeg (0 : Int32).toNatClampNeg (xc (xPlayL v cn) - nI cn).toNatClampNeg j = _
    rw [hcx, nI_clamp (by omega), nI_clamp (by omega), xPlayL_N, show (0 : Int32).toNatClampNeg = 0 from rfl, pk_cpy_in (Nat.zero_le _) (by omega), Nat.sub_zero]
  refine ⟨gV, ⟨by omega, hcx, fun j hj => ?_⟩, gm, Or.inr (Or.inl ⟨g2, fun j hj => ?_⟩)⟩
  · rw [q1 j hj]
    exact h.2.1.2.2 _ (by omega)
  · rcases gP with q | ⟨-, q⟩ | ⟨q, -⟩
    · rw [q.1] at g2
      exact absurd g2 (by decide)
    · rcases q j hj with q | q | ⟨i, q2, q3⟩
      · exact q.elim
      · exact Or.inr (Or.inl q)
      · rw [xPlayL_N] at q3
        by_cases e : i < cn
        · exact Or.inr (Or.inl (g3 i e j (by have := h.2.2.1.1; omega) q3))
        · exact Or.inr (Or.inr ⟨i - cn, by omega, by rw [q1 _ (by omega), show cn + (i - cn) = i by omega]; exact q3⟩)
    · rw [q] at g2
      exact absurd g2 (by decide)
theorem zX_cut {n c : Nat} {v : XS} (h : zX zE n c 40 v) (hp : xp v = 1) (hc : c ≤ 1024) : zX zE n 0 40 (xUp (xPlay v c) 2) := by
  obtain ⟨gV, gN, gm, gP⟩ := zX_play h hp hc (Nat.le_refl c)
  rw [Nat.sub_self] at gN gP
  refine ⟨gV, gN, gm, Or.inr (Or.inr ⟨rfl, rfl, rfl, fun j hj => Or.inr ?_⟩)⟩
  have g2 : xp (xPlay v c) = 1 := (zX_playL h hp hc c (Nat.le_refl c)).2.1
  rcases gP with q | ⟨-, q⟩ | ⟨q, -⟩
  · rw [q.1] at g2
    exact absurd g2 (by decide)
  · rcases q j hj with q | q | ⟨i, q2, -⟩
    · exact q.elim
    · exact q
    · exact absurd q2 (Nat.not_lt_zero i)
  · rw [q] at g2
    exact absurd g2 (by decide)
theorem zX_undo {n c m : Nat} {v : XS} (h : zX zE n c m v) (hp : xp v = 2) : zX zE n 0 40 (xUp v 1) := by
  obtain ⟨gV, gN, gm, gP⟩ := h
  rcases gP with q | ⟨q, -⟩ | ⟨-, q2, q3, q4⟩
  · rw [q.1] at hp
    exact absurd hp (by decide)
  · rw [q] at hp
    exact absurd hp (by decide)
  · subst q2 q3
    exact ⟨gV, gN, gm, Or.inr (Or.inl ⟨rfl, fun j hj => (q4 j hj).imp id Or.inl⟩)⟩
theorem xUnr_is (v : XS) : ∀ i, i ≤ 40 → ∃ g : Nat → Int32, xUnr v i = xUR v g ∧ (∀ j, j < i → g j = 0) ∧ ∀ j, i ≤ j → g j = xR v j
  | 0, _ => ⟨xR v, rfl, fun j hj => absurd hj (Nat.not_lt_zero j), fun _ _ => rfl⟩
  | i + 1, hi => by
    obtain ⟨g, e, h1, h2⟩ := xUnr_is v i (by omega)
    refine ⟨upd g i 0, ?_, fun j hj => ?_, fun j hj => ?_⟩
    · show xUR (xUnr v i) (upd (xR (xUnr v i)) (nI i).toNatClampNeg (vp_nar .boolean 0)) = _
      rw [e, nI_clamp (by omega), show vp_nar .boolean 0 = 0 from rfl]
      rfl
    · by_cases q : j = i
      · subst q
        rw [pk_us]
      · rw [pk_un q]
        exact h1 j (by omega)
    · rw [pk_un (by omega)]
      exact h2 j (by omega)
theorem xClr_is (v : XS) : xClr v 3 = xUC2 (xUC1 (xUC0 v (kFill 40 (-1) (xC0 v))) (kFill 40 (-1) (xC1 v))) (kFill 40 (-1) (xC2 v)) := by
  show xUC (xUC (xUC v (nI 0).toNatClampNeg (kFill 40 (-1) (xC v (nI 0).toNatClampNeg))) (nI 1).toNatClampNeg (kFill 40 (-1) (xC (xUC v (nI 0).toNatClampNeg (kFill 40 (-1) (xC v (nI 0).toNatClampNeg))) (nI 1).toNatClampNeg))) (nI 2).toNatClampNeg (kFill 40 (-1) (xC (xUC (xUC v (nI 0).toNatClampNeg (kFill 40 (-1) (xC v (nI 0).toNatClampNeg))) (nI 1).toNatClampNeg (kFill 40 (-1) (xC (xUC v (nI 0).toNatClampNeg (kFill 40 (-1) (xC v (nI 0).toNatClampNeg))) (nI 1).toNatClampNeg))) (nI 2).toNatClampNeg)) = _
  rw [show (nI 0).toNatClampNeg = 0 from rfl, show (nI 1).toNatClampNeg = 1 from rfl, show (nI 2).toNatClampNeg = 2 from rfl]
  rfl
theorem kFill_in {n j : Nat} {y : Int32} {f : Nat → Int32} (h : j < n) : kFill n y f j = y := if_pos h
/-- the end of a change, as a state -/
theorem xEnd_is (v : XS) : ∃ r : Nat → Int32, xEnd v = xUp (xUc (xUR (xUC2 (xUC1 (xUC0 v (kFill 40 (-1) (xC0 v))) (kFill 40 (-1) (xC1 v))) (kFill 40 (-1) (xC2 v))) r) 0) 0 ∧ (∀ j, j < 40 → r j = 0) ∧ ∀ j, 40 ≤ j → r j = xR v j := by
  obtain ⟨r, e2, r1, r2⟩ := xUnr_is (xClr v 3) 40 (Nat.le_refl _)
  refine ⟨r, ?_, r1, fun j hj => ?_⟩
  · unfold xEnd
    rw [e2, xClr_is]
  · rw [r2 j hj, xClr_is]
    rfl
theorem zX_end {n m : Nat} {v : XS} (h : zV v) (hm : m ≤ 40 ∧ xm v = nI m) : zX zE n 0 m (xEnd v) := by
  obtain ⟨h1, h2, h3, h4⟩ := h
  obtain ⟨r, e, r1, r2⟩ := xEnd_is v
  rw [e]
  refine ⟨⟨fun j hj => ⟨(h1 j hj).1, Or.inl ⟨kFill_in hj, kFill_in hj, kFill_in hj⟩⟩, h2, h3, fun j => ?_⟩, ⟨Nat.zero_le _, rfl, fun j hj => absurd hj (Nat.not_lt_zero j)⟩, hm, Or.inl ⟨rfl, rfl, fun j hj => ⟨kFill_in hj, kFill_in hj, kFill_in hj, r1 j hj⟩⟩⟩
  show r j = 0 ∨ r j = 1
  by_cases hj : j < 40
  · exact Or.inl (r1 j hj)
  · rw [r2 j (by omega)]
    exact h4 j
/-- rows that go: what is left -/
theorem xRem_is {v : XS} : ∀ i, i ≤ 40 → ∃ f g : Nat → Int32, xRem v i = xUB (xUA v f) g ∧ (∀ j, j < i → xGo v j = true → f j = -1) ∧ (∀ j, j < i → xGo v j = false → f j = xA v j ∧ g j = xB v j) ∧ ∀ j, i ≤ j → f j = xA v j ∧ g j = xB v j
  | 0, _ => ⟨xA v, xB v, rfl, fun j hj => absurd hj (Nat.not_lt_zero j), fun j hj => absurd hj (Nat.not_lt_zero j), fun _ _ => ⟨rfl, rfl⟩⟩
  | i + 1, hi => by
    obtain ⟨f, g, e, h1, h2, h3⟩ := xRem_is (v := v) i (by omega)
    have hg : xGo (xRem v i) i = xGo v i := by
      unfold xGo xOld
      rw [e, kx (by omega)]
      show (!decide (f i = -1) && !xSh v (nI i)) = _
      rw [(h3 i (Nat.le_refl i)).1]
    have es : xRem v (i + 1) = if xGo v i then xPut (xRem v i) (nI i) (-1) (-1) else xRem v i := by
      show (if xGo (xRem v i) i then xPut (xRem v i) (nI i) (-1) (-1) else xRem v i) = _
      rw [hg]
    cases hq : xGo v i with
    | false =>
      refine ⟨f, g, by rw [es, hq]; exact e, fun j hj hj2 => ?_, fun j hj hj2 => ?_, fun j hj => h3 j (by omega)⟩
      · by_cases q : j = i
        · subst q
          rw [hq] at hj2
          exact absurd hj2 (by decide)
        · exact h1 j (by omega) hj2
      · by_cases q : j = i
        · subst q
          exact h3 j (Nat.le_refl j)
        · exact h2 j (by omega) hj2
    | true =>
      refine ⟨upd f i (-1), upd g i (-1), ?_, fun j hj hj2 => ?_, fun j hj hj2 => ?_, fun j hj => ?_⟩
      · rw [es, hq, if_pos rfl, e]
        show xPut (xUB (xUA v f) g) (nI i) (-1) (-1) = _
        unfold xPut
        rw [kx (by omega)]
        rfl
      · by_cases q : j = i
        · subst q
          exact pk_us
        · rw [pk_un q]
          exact h1 j (by omega) hj2
      · by_cases q : j = i
        · subst q
          rw [hq] at hj2
          exact absurd hj2 (by decide)
        · rw [pk_un q, pk_un q]
          exact h2 j (by omega) hj2
      · rw [pk_un (by omega), pk_un (by omega)]
        exact h3 j (by omega)
theorem xRemN_is {v : XS} : ∀ i, i ≤ 40 → xRemN v i = kSum (fun j => b2i (xGo v j)) i
  | 0, _ => rfl
  | i + 1, hi => by
    obtain ⟨f, g, e, h1, h2, h3⟩ := xRem_is (v := v) i (by omega)
    have hg : xGo (xRem v i) i = xGo v i := by
      unfold xGo xOld
      rw [e, kx (by omega)]
      show (!decide (f i = -1) && !xSh v (nI i)) = _
      rw [(h3 i (Nat.le_refl i)).1]
    show xRemN v i + b2i (xGo (xRem v i) i) = kSum (fun j => b2i (xGo v j)) i + b2i (xGo v i)
    rw [xRemN_is i (by omega), hg]
theorem zX_rem {n c m : Nat} {v : XS} (h : zX zE n c m v) : zX zE n 0 m (xEnd (xRem v 40)) := by
  obtain ⟨f, g, e, h1, h2, -⟩ := xRem_is (v := v) 40 (Nat.le_refl _)
  refine zX_end ?_ ?_
  · rw [e]
    refine ⟨fun j hj => ⟨?_, (h.1.1 j hj).2⟩, h.1.2⟩
    show f j = -1 ∨ ∃ a b : Nat, a ≤ 999 ∧ b ≤ 999 ∧ f j = nI a ∧ g j = nI b
    cases hq : xGo v j with
    | true => exact Or.inl (h1 j hj hq)
    | false =>
      rw [(h2 j hj hq).1, (h2 j hj hq).2]
      exact (h.1.1 j hj).1
  · rw [e]
    exact h.2.2.1
theorem zX_start {n c m : Nat} {v : XS} (h : zX zE n c m v) (hp : xp v = 0) (al : Int32) {q : Nat} (hq : q ≤ 999) : zX zE n 0 0 (xStart v al (nI q)) := by
  obtain ⟨⟨h1, h2, h3, h4⟩, hN, hm, h⟩ := h
  rcases h with ⟨-, q2, -⟩ | ⟨p1, -⟩ | ⟨p1, -⟩
  · subst q2
    exact ⟨⟨h1, ⟨q, hq, rfl⟩, h3, h4⟩, hN, ⟨Nat.zero_le _, rfl⟩, Or.inr (Or.inl ⟨rfl, fun j hj => absurd hj (Nat.not_lt_zero j)⟩)⟩
  · rw [hp] at p1
    exact absurd p1 (by decide)
  · rw [hp] at p1
    exact absurd p1 (by decide)
theorem zI_pace {n : Nat} {v : XS} (h : zI n v) {ch : Nat} (h1 : 1 ≤ ch) (h2 : ch ≤ 40) (lag : Int32) : zI n (xUl (xUk v (nI ch)) lag) := by
  obtain ⟨c, m, ⟨q1, q2, q3, q4⟩, g2, g3, g4⟩ := h
  exact ⟨c, m, ⟨q1, q2, ⟨ch, h1, h2, rfl⟩, q4⟩, g2, g3, g4⟩
theorem zI_new : zI 0 xNew := by
  have e : xNew = xUl (xUk (xUp (xUC2 (xUC1 (xUC0 (xUA xZ (kFill 40 (-1) (xA xZ))) (kFill 40 (-1) (xC0 xZ))) (kFill 40 (-1) (xC1 xZ))) (kFill 40 (-1) (xC2 xZ))) 0) 8) 10 := by
    unfold xNew
    rw [xClr_is]
    rfl
  rw [e]
  exact ⟨0, 0, ⟨fun j hj => ⟨Or.inl (kFill_in hj), Or.inl ⟨kFill_in hj, kFill_in hj, kFill_in hj⟩⟩, ⟨0, by decide, rfl⟩, ⟨8, by decide, by decide, rfl⟩, fun j => Or.inl rfl⟩, ⟨Nat.le_refl _, rfl, fun j hj => absurd hj (Nat.not_lt_zero j)⟩, ⟨Nat.zero_le _, rfl⟩, Or.inl ⟨rfl, rfl, fun j hj => ⟨kFill_in hj, kFill_in hj, kFill_in hj, rfl⟩⟩⟩
end
section
/-! MINE: the law's two arrays, and what the law reads off them. -/
def lK (a0 a1 a2 a3 a4 a5 a6 : Int32) : Nat → Int32
  | 0 => a0
  | 1 => a1
  | 2 => a2
  | 3 => a3
  | 4 => a4
  | 5 => a5
  | 6 => a6
  | _ => 0
def lC (v : XS) : Nat → Int32 := lK (xp v) (xt v) (xq v) (xk v) (xl v) (xm v) (xc v)
def lO (v : XS) : Nat → Int32 := fun j => if xA v j = -1 then -1 else 1000 * xA v j + xB v j
section LK
variable (a0 a1 a2 a3 a4 a5 a6 y : Int32)
theorem lK_u0 : upd (lK a0 a1 a2 a3 a4 a5 a6) 0 y = lK y a1 a2 a3 a4 a5 a6 := funext fun j => by
  by_cases h : j = 0
  · subst h; rw [pk_us]; rfl
  · rw [pk_un h]; rcases j with _ | _ | _ | _ | _ | _ | _ | j <;> first | rfl | exact absurd rfl h
theorem lK_u1 : upd (lK a0 a1 a2 a3 a4 a5 a6) 1 y = lK a0 y a2 a3 a4 a5 a6 := funext fun j => by
  by_cases h : j = 1
  · subst h; rw [pk_us]; rfl
  · rw [pk_un h]; rcases j with _ | _ | _ | _ | _ | _ | _ | j <;> first | rfl | exact absurd rfl h
theorem lK_u2 : upd (lK a0 a1 a2 a3 a4 a5 a6) 2 y = lK a0 a1 y a3 a4 a5 a6 := funext fun j => by
  by_cases h : j = 2
  · subst h; rw [pk_us]; rfl
  · rw [pk_un h]; rcases j with _ | _ | _ | _ | _ | _ | _ | j <;> first | rfl | exact absurd rfl h
theorem lK_u3 : upd (lK a0 a1 a2 a3 a4 a5 a6) 3 y = lK a0 a1 a2 y a4 a5 a6 := funext fun j => by
  by_cases h : j = 3
  · subst h; rw [pk_us]; rfl
  · rw [pk_un h]; rcases j with _ | _ | _ | _ | _ | _ | _ | j <;> first | rfl | exact absurd rfl h
theorem lK_u4 : upd (lK a0 a1 a2 a3 a4 a5 a6) 4 y = lK a0 a1 a2 a3 y a5 a6 := funext fun j => by
  by_cases h : j = 4
  · subst h; rw [pk_us]; rfl
  · rw [pk_un h]; rcases j with _ | _ | _ | _ | _ | _ | _ | j <;> first | rfl | exact absurd rfl h
theorem lK_u5 : upd (lK a0 a1 a2 a3 a4 a5 a6) 5 y = lK a0 a1 a2 a3 a4 y a6 := funext fun j => by
  by_cases h : j = 5
  · subst h; rw [pk_us]; rfl
  · rw [pk_un h]; rcases j with _ | _ | _ | _ | _ | _ | _ | j <;> first | rfl | exact absurd rfl h
theorem lK_u6 : upd (lK a0 a1 a2 a3 a4 a5 a6) 6 y = lK a0 a1 a2 a3 a4 a5 y := funext fun j => by
  by_cases h : j = 6
  · subst h; rw [pk_us]; rfl
  · rw [pk_un h]; rcases j with _ | _ | _ | _ | _ | _ | _ | j <;> first | rfl | exact absurd rfl h
end LK
/-- what the law says that a row is altered to -/
def lDig (b : Int32) : Int32 := if b ≤ 99 then (if b ≤ 9 then 1 else 2) else 3
def lAlt (t q row col : Int32) : Int32 :=
  if row < 0 then -1 else if t = 1 ∧ ¬ row - row / 1000 * 1000 ≤ q then -1
  else if col = 0 then (if t = 0 then row / 1000 / 100 else row / 1000)
  else if col = 1 then (if t = 0 then row / 1000 - row / 1000 / 100 * 100 else if t = 1 then row - row / 1000 * 1000 else (row - row / 1000 * 1000) * q)
  else (if t = 0 then row - row / 1000 * 1000 else if t = 1 then 0 else lDig (row - row / 1000 * 1000))
theorem lDig_is {n : Nat} (h : n < 2 ^ 31) : lDig (nI n) = xDig (nI n) := by
  unfold lDig xDig
  have e1 : (nI n ≤ 99) ↔ n ≤ 99 := nI_leI (a := n) (b := 99) h (by decide)
  have e2 : (nI n ≤ 9) ↔ n ≤ 9 := nI_leI (a := n) (b := 9) h (by decide)
  have e3 : ((10 : Int32) ≤ nI n) ↔ 10 ≤ n := nI_leI (a := 10) (b := n) (by decide) h
  have e4 : ((100 : Int32) ≤ nI n) ↔ 100 ≤ n := nI_leI (a := 100) (b := n) (by decide) h
  by_cases h1 : n ≤ 9
  · rw [if_pos (e1.mpr (by omega)), if_pos (e2.mpr h1), if_neg (fun q => by have := e3.mp q; omega)]
  · by_cases h2 : n ≤ 99
    · rw [if_pos (e1.mpr h2), if_neg (fun q => h1 (e2.mp q)), if_pos (e3.mpr (by omega)), if_neg (fun q => by have := e4.mp q; omega)]
    · rw [if_neg (fun q => h2 (e1.mp q)), if_pos (e3.mpr (by omega)), if_pos (e4.mpr (by omega))]
theorem lrow_a {a b : Nat} (ha : a ≤ 999) (hb : b ≤ 999) : nI (1000 * a + b) / 1000 = nI a := by
  rw [i1000, pk_div (by omega) (by decide) (by decide)]
  congr 1
  omega
theorem lrow_b {a b : Nat} (ha : a ≤ 999) (hb : b ≤ 999) : nI (1000 * a + b) - nI (1000 * a + b) / 1000 * 1000 = nI b := by
  rw [i1000, pk_rem (by omega) (by decide) (by decide)]
  congr 1
  omega
theorem lAlt_w {v : XS} {a b : Nat} (ha : a ≤ 999) (hb : b ≤ 999) (c : Int32) : lAlt (xt v) (xq v) (nI (1000 * a + b)) c = if xFits v (nI b) then xAlt v (nI a) (nI b) c else -1 := by
  unfold lAlt
  rw [if_neg (nI_pos (by omega)), lrow_b ha hb, lrow_a ha hb, lDig_is (by omega)]
  by_cases h1 : xt v = 1 ∧ ¬ nI b ≤ xq v
  · rw [if_pos h1, if_neg (by unfold xFits; rw [decide_eq_true h1.1, decide_eq_true (Int32.not_le.mp h1.2)]; decide)]
  · have hf : xFits v (nI b) = true := by
      unfold xFits
      by_cases h2 : xt v = 1
      · have h3 : ¬ xq v < nI b := fun q => h1 ⟨h2, Int32.not_le.mpr q⟩
        rw [decide_eq_false h3]
        simp
      · rw [decide_eq_false h2]
        rfl
    rw [if_neg h1, if_pos hf]
    rfl
theorem lAlt_m (t q c : Int32) : lAlt t q (-1) c = -1 := if_pos (by decide)
theorem lO_neg {v : XS} {j : Nat} (h : xA v j = -1) : lO v j = -1 := if_pos h
theorem lO_pos {v : XS} {j a b : Nat} (ha : a ≤ 999) (h1 : xA v j = nI a) (h2 : xB v j = nI b) : lO v j = nI (1000 * a + b) := by
  unfold lO
  rw [h1, h2, if_neg (nI_m1 (by omega)), row_n]
theorem lAlt_bro {v : XS} {j : Nat} (hj : j < 40) (h : zA v j) (c : Int32) : lAlt (xt v) (xq v) (lO v j) c = xBro v (nI j) c := by
  unfold xBro
  rw [kx hj]
  rcases h with e | ⟨a, b, ha, hb, ea, eb⟩
  · rw [lO_neg e, lAlt_m, if_neg]
    unfold xOld
    rw [kx hj, e]
    simp
  · rw [lO_pos ha ea eb, lAlt_w ha hb, ea, eb]
    have ho : xOld v (nI j) = true := by
      unfold xOld
      rw [kx hj, ea, decide_eq_false (nI_m1 (by omega))]
      rfl
    rw [ho, Bool.true_and]
theorem lO_lt {v : XS} {j : Nat} (hj : j < 40) (h : zA v j) (q : lO v j < 0) : xOld v (nI j) = false := by
  unfold xOld
  rw [kx hj]
  rcases h with e | ⟨a, b, ha, hb, ea, eb⟩
  · rw [e]; rfl
  · rw [lO_pos ha ea eb] at q
    exact absurd q (nI_pos (by omega))
theorem lO_ge {v : XS} {j : Nat} (hj : j < 40) (h : zA v j) (q : ¬ lO v j < 0) : xOld v (nI j) = true := by
  unfold xOld
  rw [kx hj]
  by_cases e : xA v j = -1
  · rw [lO_neg e] at q
    exact absurd (by decide) q
  · rw [decide_eq_false e]; rfl
theorem lO_row {v : XS} {j : Nat} (hj : j < 40) (h : xOld v (nI j) = true) : lO v j = xRow v (nI j) := by
  unfold xOld at h
  unfold lO xRow
  rw [kx hj] at h ⊢
  rw [if_neg (fun e => by rw [e] at h; exact absurd h (by decide))]
/-- the shadow's row, as one looks at it -/
theorem l_sh {v : XS} {j : Nat} (hj : j < 40) (h : zS v j) : (xSh v (nI j) = false ∧ ∀ k, k < 3 → xC v k j = -1) ∨ (xSh v (nI j) = true ∧ xR v j = 0 ∧ ∀ k, k < 3 → ∃ x : Nat, x < 2 ^ 31 ∧ xC v k j = nI x) := by
  unfold xSh
  rw [kx hj]
  rcases h with ⟨e0, e1, e2⟩ | ⟨x, y, z, hx, hy, hz, e0, e1, e2, e3⟩
  · refine Or.inl ⟨by show (!decide (xC0 v j = -1)) = false; rw [e0]; rfl, fun k hk => ?_⟩
    rcases (show k = 0 ∨ k = 1 ∨ k = 2 by omega) with rfl | rfl | rfl
    · exact e0
    · exact e1
    · exact e2
  · refine Or.inr ⟨by show (!decide (xC0 v j = -1)) = true; rw [e0, decide_eq_false (nI_m1 hx)]; rfl, e3, fun k hk => ?_⟩
    rcases (show k = 0 ∨ k = 1 ∨ k = 2 by omega) with rfl | rfl | rfl
    · exact ⟨x, hx, e0⟩
    · exact ⟨y, hy, e1⟩
    · exact ⟨z, hz, e2⟩
theorem l_sh_lt {v : XS} {j k : Nat} (hj : j < 40) (h : zS v j) (hk : k < 3) (q : xC v k j < 0) : xSh v (nI j) = false := by
  rcases l_sh hj h with h | h
  · exact h.1
  · obtain ⟨x, hx, e⟩ := h.2.2 k hk
    rw [e] at q
    exact absurd q (nI_pos hx)
theorem l_sh_ge {v : XS} {j k : Nat} (hj : j < 40) (h : zS v j) (hk : k < 3) (q : ¬ xC v k j < 0) : xSh v (nI j) = true := by
  rcases l_sh hj h with h | h
  · rw [h.2 k hk] at q
    exact absurd (by decide) q
  · exact h.1
theorem l_ref {v : XS} {j : Nat} (hj : j < 40) (h : zS v j) (q : xSh v (nI j) = true) : xR v j = 0 := by
  rcases l_sh hj h with h | h
  · rw [h.1] at q
    exact absurd q (by decide)
  · exact h.2.1
theorem l_bro_ge {v : XS} (hq : zQ v) {j : Nat} (hj : j < 40) (h : zA v j) (c : Int32) : (xBro v (nI j) c = -1) ∨ ∃ n : Nat, n < 2 ^ 31 ∧ xBro v (nI j) c = nI n := by
  cases hd : lDue v (nI j) with
  | false => exact Or.inl (l_bro_f hd c)
  | true => exact Or.inr (l_bro_t hq hj h hd c)
/-- a brought key: in the shadow just if it is due -/
theorem zB_sh {v : XS} (hq : zQ v) {j : Nat} (hj : j < 40) (hA : zA v j) (h : zB v j) : xSh v (nI j) = lDue v (nI j) := by
  unfold xSh
  rw [kx hj]
  show (!decide (xC0 v j = -1)) = _
  rw [h.1]
  cases hd : lDue v (nI j) with
  | false => rw [l_bro_f hd]; rfl
  | true =>
    obtain ⟨n, hn, e⟩ := l_bro_t hq hj hA hd 0
    rw [e, decide_eq_false (nI_m1 hn)]
    rfl
theorem zB_beh {v : XS} {j : Nat} (hj : j < 40) (h : zB v j) : xBeh v (nI j) = false := by
  obtain ⟨h0, h1, h2, -⟩ := h
  unfold xBeh
  rw [kx hj]
  show (!decide (xC0 v j = _) || (!decide (xC1 v j = _) || !decide (xC2 v j = _))) = false
  rw [h0, h1, h2]
  simp
theorem zB_ref {v : XS} {j : Nat} (hj : j < 40) (h : zB v j) : xR v j = b2i (xOld v (nI j) && !lDue v (nI j)) := by
  rw [h.2.2.2]
  unfold lDue
  rw [kx hj]
  cases xOld v (nI j) <;> rfl
theorem kSum_congr {f g : Nat → Int32} : ∀ {n : Nat}, (∀ i, i < n → f i = g i) → kSum f n = kSum g n
  | 0, _ => rfl
  | n + 1, h => by
    show kSum f n + f n = kSum g n + g n
    rw [kSum_congr (fun i hi => h i (by omega)), h n (Nat.lt_succ_self n)]
theorem kSum_zero {f : Nat → Int32} {n : Nat} (h : ∀ i, i < n → f i = 0) : kSum f n = 0 := by
  induction n with
  | zero => rfl
  | succ n ih =>
    show kSum f n + f n = 0
    rw [ih (fun i hi => h i (by omega)), h n (Nat.lt_succ_self n)]
    rfl
theorem kSum_upd {f g : Nat → Int32} {i : Nat} : ∀ {n : Nat}, i < n → (∀ j, j < n → j ≠ i → f j = g j) → kSum f n + g i = kSum g n + f i
  | 0, hi, _ => absurd hi (Nat.not_lt_zero i)
  | n + 1, hi, h => by
    show kSum f n + f n + g i = kSum g n + g n + f i
    by_cases e : i = n
    · subst e
      rw [kSum_congr (fun j hj => h j (by omega) (by omega)), Int32.add_assoc, Int32.add_assoc, Int32.add_comm (f i)]
    · rw [h n (Nat.lt_succ_self n) (fun q => e q.symm), Int32.add_assoc, Int32.add_comm (g n), ← Int32.add_assoc, kSum_upd (n := n) (by omega) (fun j hj hn => h j (by omega) hn), Int32.add_assoc, Int32.add_assoc, Int32.add_comm (f i)]
theorem beh_zero {v : XS} (h : ∀ j, j < 40 → zB v j) : xBehinds v 40 = 0 := kSum_zero fun j hj => by
  rw [zB_beh hj (h j hj)]
  rfl
/-- the sums that the law makes on its way -/
def zBe (v : XS) : Nat → Int32 := kSum (fun i => b2i (!decide (xp v = 0) && xBeh v (nI i)))
def zDu (v : XS) (c : Int32) (i : Nat) : Int32 := if xp v = 0 then 0 else if xBro v (nI i) c = -1 then 0 else xBro v (nI i) c
def zAt (v : XS) (c : Int32) : Nat → Int32 := kSum (zDu v c)
theorem zBe_40 (v : XS) : (if xp v = 0 then 0 else xBehinds v 40) = zBe v 40 := by
  by_cases h : xp v = 0
  · rw [if_pos h]
    exact (kSum_zero fun j hj => by rw [decide_eq_true h]; rfl).symm
  · rw [if_neg h]
    exact kSum_congr fun j hj => by rw [decide_eq_false h]; rfl
theorem zAt_40 (v : XS) (c : Int32) : (if xp v = 0 then 0 else xSumAt v c 40) = zAt v c 40 := by
  by_cases h : xp v = 0
  · rw [if_pos h]
    exact (kSum_zero fun j hj => by unfold zDu; rw [if_pos h]).symm
  · rw [if_neg h]
    exact kSum_congr fun j hj => by unfold zDu; rw [if_neg h]
def hS (v : XS) (i k : Nat) : Nat → Int32 := fun j => if j < 3 then xSum v (nI j) (if j < k then i + 1 else i) else if j < 6 then zAt v (nI (j - 3)) (if j - 3 < k then i + 1 else i) else 0
theorem hS_0 (v : XS) : hS v 0 0 = fun _ => 0 := funext fun j => by
  unfold hS
  by_cases h : j < 3
  · rw [if_pos h, if_neg (Nat.not_lt_zero j)]
    rfl
  · rw [if_neg h]
    by_cases h2 : j < 6
    · rw [if_pos h2, if_neg (Nat.not_lt_zero _)]
      rfl
    · rw [if_neg h2]
theorem hS_next (v : XS) (i : Nat) : hS v (i + 1) 0 = hS v i 3 := funext fun j => by
  unfold hS
  by_cases h : j < 3
  · rw [if_pos h, if_pos h, if_pos h, if_neg (Nat.not_lt_zero j)]
  · rw [if_neg h, if_neg h]
    by_cases h2 : j < 6
    · rw [if_pos h2, if_pos h2, if_neg (Nat.not_lt_zero _), if_pos (by omega)]
    · rw [if_neg h2, if_neg h2]
def zSu (v : XS) (k i : Nat) : Int32 := if xSh v (nI i) then xC v k i else 0
theorem k3n {k : Nat} (hk : k < 3) : (nI k).toNatClampNeg = k ∧ (3 + nI k).toNatClampNeg = k + 3 := by
  refine ⟨nI_clamp (by omega), ?_⟩
  rw [show (3 : Int32) = nI 3 from rfl, nI_add, nI_clamp (by omega), Nat.add_comm]
theorem hS_step (v : XS) {i k : Nat} (hi : i < 40) (hk : k < 3) : hS v i (k + 1) = upd (upd (hS v i k) k (hS v i k k + zSu v k i)) (k + 3) (upd (hS v i k) k (hS v i k k + zSu v k i) (k + 3) + zDu v (nI k) i) := funext fun j => by
  have hne : k + 3 ≠ k := by omega
  rw [pk_un hne]
  by_cases e1 : j = k + 3
  · subst e1
    rw [pk_us]
    unfold hS
    rw [if_neg (by omega), if_pos (by omega), if_pos (by omega), if_neg (by omega), if_pos (by omega), if_neg (by omega), Nat.add_sub_cancel]
    rfl
  · rw [pk_un e1]
    by_cases e2 : j = k
    · subst e2
      rw [pk_us]
      unfold hS
      rw [if_pos hk, if_pos (Nat.lt_succ_self j), if_pos hk, if_neg (Nat.lt_irrefl j)]
      have e3 : (if xSh v (nI i) then xC v (nI j).toNatClampNeg (nI i).toNatClampNeg else 0) = zSu v j i := by
        rw [kx hi, nI_clamp (by omega)]
        rfl
      exact congrArg (kSum (fun i => if xSh v (nI i) then xC v (nI j).toNatClampNeg (nI i).toNatClampNeg else 0) i + ·) e3
    · rw [pk_un e2]
      unfold hS
      by_cases h : j < 3
      · rw [if_pos h, if_pos h]
        by_cases h2 : j < k
        · rw [if_pos (by omega), if_pos h2]
        · rw [if_neg (by omega), if_neg h2]
      · rw [if_neg h, if_neg h]
        by_cases h3 : j < 6
        · rw [if_pos h3, if_pos h3]
          by_cases h2 : j - 3 < k
          · rw [if_pos (by omega), if_pos h2]
          · rw [if_neg (by omega), if_neg h2]
        · rw [if_neg h3, if_neg h3]
theorem hS_sum (v : XS) {k : Nat} (hk : k < 3) : hS v 40 0 k = xSum v (nI k) 40 ∧ hS v 40 0 (k + 3) = zAt v (nI k) 40 := by
  unfold hS
  rw [if_pos hk, if_neg (Nat.not_lt_zero k), if_neg (by omega), if_pos (by omega), if_neg (Nat.not_lt_zero _), Nat.add_sub_cancel]
  exact ⟨rfl, rfl⟩
end
section
/-! MINE: the class's questions, where key and column are in range: no throw, no new cell. -/
theorem in_key {k : Int32} (h : vp_in k 40) : xWithin k 0 39 = true := by
  rw [vp_in_iff] at h
  unfold xWithin
  have e0 : (0 : Int32).toInt = 0 := rfl
  have e1 : (39 : Int32).toInt = 39 := rfl
  rw [decide_eq_false (by rw [Int32.lt_iff_toInt_lt]; omega), decide_eq_false (by rw [Int32.lt_iff_toInt_lt]; omega)]
  rfl
theorem in_col {k : Int32} (h : vp_in k 3) : xWithin k 0 2 = true := by
  rw [vp_in_iff] at h
  unfold xWithin
  have e0 : (0 : Int32).toInt = 0 := rfl
  have e1 : (2 : Int32).toInt = 2 := rfl
  rw [decide_eq_false (by rw [Int32.lt_iff_toInt_lt]; omega), decide_eq_false (by rw [Int32.lt_iff_toInt_lt]; omega)]
  rfl
set_option maxHeartbeats 4000000 in
set_option maxRecDepth 100000 in
theorem kS_shadow (l : Launch) (D : va_G) (ca : Nat → ClassId) (ad : Nat → Nat) (v : XS) (key col : Int32) (hk : vp_in key 40) (hc : vp_in col 3) : CM l yX0_shadow cX0_shadow 3 (some .int) (KR 2 42) D ca (xw ad ca v) [.ref (ad 0), .int key, .int col] (some (.int (xC v col.toNatClampNeg key.toNatClampNeg))) (xw ad ca v) := by
  refine CM.of (by decide) (Nat.le_of_ble_eq_true rfl) ?_
  intro p e s m below meth c A ls cx hml hr hlk hI hl
  have hl : lv_has ls 3 [(0, .ref (ad 0)), (1, .int key), (2, .int col)] := hl
  refine lv_iload_n cx.1 cx.2.1 dX0_shadow_0 rfl (lv_at hl 1 rfl) ?_
  refine ks_i 1 cx (hl.1.trans hml.symm) (kX0_isKey l D ca key) hI wk_89 wk_87 wk_88 wk_1 ⟨by decide, by decide, by decide +kernel⟩ rfl ⟨rfl, rfl⟩ ⟨Nat.le_of_ble_eq_true rfl, Nat.le_of_ble_eq_true rfl⟩ (Nat.le_of_ble_eq_true rfl) dX0_shadow_1 ⟨Nat.zero_le _, Nat.zero_le _⟩ rfl (fun H locs hI => ?_)
  refine kb_eq (tgt := 14) cx dX0_shadow_4 (by decide) (fun h9 => absurd h9 (by rw [in_key hk]; decide)) (fun _ => ?_)
  refine lv_iload_n cx.1 cx.2.1 dX0_shadow_7 rfl (lv_at hl 2 rfl) ?_
  refine ks_i 1 cx (hl.1.trans hml.symm) (kX0_isColumn l D ca col) hI wk_95 wk_93 wk_94 wk_1 ⟨by decide, by decide, by decide +kernel⟩ rfl ⟨rfl, rfl⟩ ⟨Nat.le_of_ble_eq_true rfl, Nat.le_of_ble_eq_true rfl⟩ (Nat.le_of_ble_eq_true rfl) dX0_shadow_8 ⟨Nat.zero_le _, Nat.zero_le _⟩ rfl (fun H locs hI => ?_)
  refine kb_ne (tgt := 24) cx dX0_shadow_11 (by decide) (fun _ => ?_) (fun h9 => absurd h9 (by rw [in_col hc]; decide))
  refine lv_aload_n cx.1 cx.2.1 dX0_shadow_24 rfl (lv_at hl 0 rfl) ?_
  refine xg_2 cx hI dX0_shadow_25 ?_
  refine lv_iload_n cx.1 cx.2.1 dX0_shadow_28 rfl (lv_at hl 2 rfl) ?_
  refine xa_cols cx hI hc dX0_shadow_29 ?_
  refine lv_iload_n cx.1 cx.2.1 dX0_shadow_30 rfl (lv_at hl 1 rfl) ?_
  refine xa_col (j := col.toNatClampNeg) cx hI hc rfl hk dX0_shadow_31 ?_
  exact ke_i cx hr hlk hI (Nat.zero_le _) (Nat.zero_le _) dX0_shadow_32 rfl rfl
set_option maxHeartbeats 4000000 in
set_option maxRecDepth 100000 in
theorem kS_row (l : Launch) (D : va_G) (ca : Nat → ClassId) (ad : Nat → Nat) (v : XS) (key : Int32) (hk : vp_in key 40) : CM l yX0_row cX0_row 2 (some .int) (KR 2 42) D ca (xw ad ca v) [.ref (ad 0), .int key] (some (.int (if xSeen v key then xRow v key else -1))) (xw ad ca v) := by
  refine CM.of (by decide) (Nat.le_of_ble_eq_true rfl) ?_
  intro p e s m below meth c A ls cx hml hr hlk hI hl
  have hl : lv_has ls 2 [(0, .ref (ad 0)), (1, .int key)] := hl
  refine lv_iload_n cx.1 cx.2.1 dX0_row_0 rfl (lv_at hl 1 rfl) ?_
  refine ks_i 1 cx (hl.1.trans hml.symm) (kX0_isKey l D ca key) hI wk_89 wk_87 wk_88 wk_1 ⟨by decide, by decide, by decide +kernel⟩ rfl ⟨rfl, rfl⟩ ⟨Nat.le_of_ble_eq_true rfl, Nat.le_of_ble_eq_true rfl⟩ (Nat.le_of_ble_eq_true rfl) dX0_row_1 ⟨Nat.zero_le _, Nat.zero_le _⟩ rfl (fun H locs hI => ?_)
  refine kb_ne (tgt := 17) cx dX0_row_4 (by decide) (fun _ => ?_) (fun h9 => absurd h9 (by rw [in_key hk]; decide))
  refine lv_aload_n cx.1 cx.2.1 dX0_row_17 rfl (lv_at hl 0 rfl) ?_
  refine lv_iload_n cx.1 cx.2.1 dX0_row_18 rfl (lv_at hl 1 rfl) ?_
  refine xc_i 1 cx (hl.1.trans hml.symm) (kX0_isSeen l D ca ad v key hk) hI wk_248 wk_245 wk_247 wq_10 ⟨rfl, by decide +kernel⟩ rfl ⟨rfl, rfl⟩ ⟨Nat.le_of_ble_eq_true rfl, Nat.le_of_ble_eq_true rfl⟩ (Nat.le_of_ble_eq_true rfl) dX0_row_19 ⟨Nat.zero_le _, Nat.zero_le _⟩ rfl (fun H locs hI => ?_)
  refine kb_eq (tgt := 33) cx dX0_row_22 (by decide) (fun c_2 => ?_) (fun c_2 => ?_)
  · refine lv_iconst (v := (-1)) cx.1 cx.2.1 dX0_row_33 (by decide) ?_
    exact ke_i cx hr hlk hI (Nat.zero_le _) (Nat.zero_le _) dX0_row_34 (congrArg (fun z => some (Value.int z)) (by simp [c_2])) rfl
  · refine lv_aload_n cx.1 cx.2.1 dX0_row_25 rfl (lv_at hl 0 rfl) ?_
    refine lv_iload_n cx.1 cx.2.1 dX0_row_26 rfl (lv_at hl 1 rfl) ?_
    refine xc_i 1 cx (hl.1.trans hml.symm) (kX0_rowAsNumber l D ca ad v key hk) hI wk_325 wk_322 wk_324 wq_16 ⟨rfl, by decide +kernel⟩ rfl ⟨rfl, rfl⟩ ⟨Nat.le_of_ble_eq_true rfl, Nat.le_of_ble_eq_true rfl⟩ (Nat.le_of_ble_eq_true rfl) dX0_row_27 ⟨Nat.zero_le _, Nat.zero_le _⟩ rfl (fun H locs hI => ?_)
    refine lv_goto (tgt := 34) cx.1 cx.2.1 dX0_row_30 (by decide) ?_
    exact ke_i cx hr hlk hI (Nat.zero_le _) (Nat.zero_le _) dX0_row_34 (congrArg (fun z => some (Value.int z)) (by simp [c_2])) rfl
set_option maxHeartbeats 4000000 in
set_option maxRecDepth 100000 in
theorem kS_isRefused (l : Launch) (D : va_G) (ca : Nat → ClassId) (ad : Nat → Nat) (v : XS) (key : Int32) (hz : ∀ j : Nat, narrow .boolean (.int (xR v j)) = .int (xR v j)) (hk : vp_in key 40) : CM l yX0_isRefused cX0_isRefused 2 (some .boolean) (KR 2 42) D ca (xw ad ca v) [.ref (ad 0), .int key] (some (.int (xR v key.toNatClampNeg))) (xw ad ca v) := by
  refine CM.of (by decide) (Nat.le_of_ble_eq_true rfl) ?_
  intro p e s m below meth c A ls cx hml hr hlk hI hl
  have hl : lv_has ls 2 [(0, .ref (ad 0)), (1, .int key)] := hl
  refine lv_iload_n cx.1 cx.2.1 dX0_isRefused_0 rfl (lv_at hl 1 rfl) ?_
  refine ks_i 1 cx (hl.1.trans hml.symm) (kX0_isKey l D ca key) hI wk_89 wk_87 wk_88 wk_1 ⟨by decide, by decide, by decide +kernel⟩ rfl ⟨rfl, rfl⟩ ⟨Nat.le_of_ble_eq_true rfl, Nat.le_of_ble_eq_true rfl⟩ (Nat.le_of_ble_eq_true rfl) dX0_isRefused_1 ⟨Nat.zero_le _, Nat.zero_le _⟩ rfl (fun H locs hI => ?_)
  refine kb_ne (tgt := 17) cx dX0_isRefused_4 (by decide) (fun _ => ?_) (fun h9 => absurd h9 (by rw [in_key hk]; decide))
  refine lv_aload_n cx.1 cx.2.1 dX0_isRefused_17 rfl (lv_at hl 0 rfl) ?_
  refine xg_3 cx hI dX0_isRefused_18 ?_
  refine lv_iload_n cx.1 cx.2.1 dX0_isRefused_21 rfl (lv_at hl 1 rfl) ?_
  refine xa_R cx hI hk dX0_isRefused_22 ?_
  exact ke_z cx hr hlk hI (Nat.zero_le _) (Nat.zero_le _) dX0_isRefused_23 (hz _) rfl rfl
set_option maxHeartbeats 4000000 in
set_option maxRecDepth 100000 in
theorem kS_sum (l : Launch) (D : va_G) (ca : Nat → ClassId) (ad : Nat → Nat) (v : XS) (col : Int32) (hc : vp_in col 3) : CM l yX0_sum cX0_sum 4 (some .int) (KR 2 42) D ca (xw ad ca v) [.ref (ad 0), .int col] (some (.int (xSum v col 40))) (xw ad ca v) := by
  refine CM.of (by decide) (Nat.le_of_ble_eq_true rfl) ?_
  intro p e s m below meth c A ls cx hml hr hlk hI hl
  have hl : lv_has ls 4 [(0, .ref (ad 0)), (1, .int col)] := hl
  refine lv_iload_n cx.1 cx.2.1 dX0_sum_0 rfl (lv_at hl 1 rfl) ?_
  refine ks_i 1 cx (hl.1.trans hml.symm) (kX0_isColumn l D ca col) hI wk_95 wk_93 wk_94 wk_1 ⟨by decide, by decide, by decide +kernel⟩ rfl ⟨rfl, rfl⟩ ⟨Nat.le_of_ble_eq_true rfl, Nat.le_of_ble_eq_true rfl⟩ (Nat.le_of_ble_eq_true rfl) dX0_sum_1 ⟨Nat.zero_le _, Nat.zero_le _⟩ rfl (fun H locs hI => ?_)
  refine kb_ne (tgt := 17) cx dX0_sum_4 (by decide) (fun _ => ?_) (fun h9 => absurd h9 (by rw [in_col hc]; decide))
  refine lv_iconst (v := 0) cx.1 cx.2.1 dX0_sum_17 (by decide) ?_
  refine lv_istore_n (lv' := [(2, .int 0), (0, .ref (ad 0)), (1, .int col)]) cx.1 cx.2.1 dX0_sum_18 rfl hl (by decide) rfl (fun ls hl => ?_)
  refine lv_iconst (v := 0) cx.1 cx.2.1 dX0_sum_19 (by decide) ?_
  refine lv_istore_n (lv' := [(3, .int 0), (2, .int 0), (0, .ref (ad 0)), (1, .int col)]) cx.1 cx.2.1 dX0_sum_20 rfl hl (by decide) rfl (fun ls hl => ?_)
  refine k_loop 40 (fun i => (xw ad ca v)) (fun i => [(3, .int (nI i)), (2, .int (xSum v col i)), (0, .ref (ad 0)), (1, .int col)]) hI (lv_sub hl [0, 1, 2, 3] rfl) (fun H locs ls hI hl => ?_) (fun i hi H locs ls hI hl ih => ?_)
  · have hI : KI D A (xw ad ca v) s.heap H locs := hI
    have hl : lv_has ls 4 [(3, .int (nI 40)), (2, .int (xSum v col 40)), (0, .ref (ad 0)), (1, .int col)] := hl
    refine lv_iload_n cx.1 cx.2.1 dX0_sum_21 rfl (lv_at hl 0 rfl) ?_
    refine lv_bipush (v := 40) cx.1 cx.2.1 dX0_sum_22 (by decide) ?_
    refine lv_icmp_ge (tgt := 52) cx.1 cx.2.1 dX0_sum_24 (by decide) (fun _ => ?_) (fun h9 => absurd (by decide : (40 : Int32) ≤ nI 40) h9)
    refine lv_iload_n cx.1 cx.2.1 dX0_sum_52 rfl (lv_at hl 1 rfl) ?_
    exact ke_i cx hr hlk hI (Nat.zero_le _) (Nat.zero_le _) dX0_sum_53 rfl rfl
  · have hI : KI D A (xw ad ca v) s.heap H locs := hI
    have hl : lv_has ls 4 [(3, .int (nI i)), (2, .int (xSum v col i)), (0, .ref (ad 0)), (1, .int col)] := hl
    refine lv_iload_n cx.1 cx.2.1 dX0_sum_21 rfl (lv_at hl 0 rfl) ?_
    refine lv_bipush (v := 40) cx.1 cx.2.1 dX0_sum_22 (by decide) ?_
    refine lv_icmp_ge (tgt := 52) cx.1 cx.2.1 dX0_sum_24 (by decide) (fun h9 => absurd h9 (nI_ge hi (by decide))) (fun _ => ?_)
    refine lv_aload_n cx.1 cx.2.1 dX0_sum_27 rfl (lv_at hl 2 rfl) ?_
    refine lv_iload_n cx.1 cx.2.1 dX0_sum_28 rfl (lv_at hl 0 rfl) ?_
    refine xc_i 1 cx (hl.1.trans hml.symm) (kX0_isInShadow l D ca ad v (nI i) (vp_in_nI hi (by decide))) hI wk_175 wk_172 wk_174 wq_1 ⟨rfl, by decide +kernel⟩ rfl ⟨rfl, rfl⟩ ⟨Nat.le_of_ble_eq_true rfl, Nat.le_of_ble_eq_true rfl⟩ (Nat.le_of_ble_eq_true rfl) dX0_sum_29 ⟨Nat.zero_le _, Nat.zero_le _⟩ rfl (fun H locs hI => ?_)
    refine kb_eq (tgt := 46) cx dX0_sum_32 (by decide) (fun c_4 => ?_) (fun c_4 => ?_)
    · refine lv_iinc (v := nI (i + 1)) (lv' := [(3, .int (nI (i + 1))), (2, .int (xSum v col i)), (0, .ref (ad 0)), (1, .int col)]) cx.1 cx.2.1 dX0_sum_46 hl (k := 0) rfl (nI_1 i) (by decide) rfl (fun ls hl => ?_)
      refine lv_goto (tgt := 21) cx.1 cx.2.1 dX0_sum_49 (by decide) ?_
      refine ih _ _ _ ?_ ?_
      · show KI D A (xw ad ca v) s.heap _ _
        exact hI
      · show lv_has _ _ [(3, .int (nI (i + 1))), (2, .int (xSum v col (i + 1))), (0, .ref (ad 0)), (1, .int col)]
        rw [show xSum v col (i + 1) = xSum v col i from (by simp [c_4, xSum_t, xSum_f])]
        exact lv_sub hl [0, 1, 2, 3] rfl
    · refine lv_iload_n cx.1 cx.2.1 dX0_sum_35 rfl (lv_at hl 1 rfl) ?_
      refine lv_aload_n cx.1 cx.2.1 dX0_sum_36 rfl (lv_at hl 2 rfl) ?_
      refine xg_2 cx hI dX0_sum_37 ?_
      refine lv_iload_n cx.1 cx.2.1 dX0_sum_40 rfl (lv_at hl 3 rfl) ?_
      refine xa_cols cx hI hc dX0_sum_41 ?_
      refine lv_iload_n cx.1 cx.2.1 dX0_sum_42 rfl (lv_at hl 0 rfl) ?_
      refine xa_col (j := col.toNatClampNeg) cx hI hc rfl (vp_in_nI hi (by decide)) dX0_sum_43 ?_
      refine lv_iadd cx.1 cx.2.1 dX0_sum_44 ?_
      refine lv_istore_n (lv' := [(2, .int ((xSum v col i) + (xC v col.toNatClampNeg (nI i).toNatClampNeg))), (3, .int (nI i)), (0, .ref (ad 0)), (1, .int col)]) cx.1 cx.2.1 dX0_sum_45 rfl hl (by decide) rfl (fun ls hl => ?_)
      refine lv_iinc (v := nI (i + 1)) (lv' := [(3, .int (nI (i + 1))), (2, .int ((xSum v col i) + (xC v col.toNatClampNeg (nI i).toNatClampNeg))), (0, .ref (ad 0)), (1, .int col)]) cx.1 cx.2.1 dX0_sum_46 hl (k := 1) rfl (nI_1 i) (by decide) rfl (fun ls hl => ?_)
      refine lv_goto (tgt := 21) cx.1 cx.2.1 dX0_sum_49 (by decide) ?_
      refine ih _ _ _ ?_ ?_
      · show KI D A (xw ad ca v) s.heap _ _
        exact hI
      · show lv_has _ _ [(3, .int (nI (i + 1))), (2, .int (xSum v col (i + 1))), (0, .ref (ad 0)), (1, .int col)]
        rw [show xSum v col (i + 1) = (xSum v col i) + (xC v col.toNatClampNeg (nI i).toNatClampNeg) from (by simp [c_4, xSum_t, xSum_f])]
        exact lv_sub hl [0, 1, 2, 3] rfl
set_option maxHeartbeats 4000000 in
set_option maxRecDepth 100000 in
theorem kS_sumAtOnce (l : Launch) (D : va_G) (ca : Nat → ClassId) (ad : Nat → Nat) (v : XS) (col : Int32) (hc : vp_in col 3) : CM l yX0_sumAtOnce cX0_sumAtOnce 5 (some .int) (KR 4 86) D ca (xw ad ca v) [.ref (ad 0), .int col] (some (.int (if xp v = 0 then 0 else xSumAt v col 40))) (xw ad ca v) := by
  refine CM.of (by decide) (Nat.le_of_ble_eq_true rfl) ?_
  intro p e s m below meth c A ls cx hml hr hlk hI hl
  have hl : lv_has ls 5 [(0, .ref (ad 0)), (1, .int col)] := hl
  refine lv_iload_n cx.1 cx.2.1 dX0_sumAtOnce_0 rfl (lv_at hl 1 rfl) ?_
  refine ks_i 1 cx (hl.1.trans hml.symm) (kX0_isColumn l D ca col) hI wk_95 wk_93 wk_94 wk_1 ⟨by decide, by decide, by decide +kernel⟩ rfl ⟨rfl, rfl⟩ ⟨Nat.le_of_ble_eq_true rfl, Nat.le_of_ble_eq_true rfl⟩ (Nat.le_of_ble_eq_true rfl) dX0_sumAtOnce_1 ⟨Nat.zero_le _, Nat.zero_le _⟩ rfl (fun H locs hI => ?_)
  refine kb_ne (tgt := 17) cx dX0_sumAtOnce_4 (by decide) (fun _ => ?_) (fun h9 => absurd h9 (by rw [in_col hc]; decide))
  refine lv_aload_n cx.1 cx.2.1 dX0_sumAtOnce_17 rfl (lv_at hl 0 rfl) ?_
  refine xg_6 cx hI dX0_sumAtOnce_18 ?_
  refine lv_if_ne (tgt := 26) cx.1 cx.2.1 dX0_sumAtOnce_21 (by decide) (fun c_2 => ?_) (fun c_2 => ?_)
  · refine lv_iconst (v := 0) cx.1 cx.2.1 dX0_sumAtOnce_26 (by decide) ?_
    refine lv_istore_n (lv' := [(2, .int 0), (0, .ref (ad 0)), (1, .int col)]) cx.1 cx.2.1 dX0_sumAtOnce_27 rfl hl (by decide) rfl (fun ls hl => ?_)
    refine lv_iconst (v := 0) cx.1 cx.2.1 dX0_sumAtOnce_28 (by decide) ?_
    refine lv_istore_n (lv' := [(3, .int 0), (2, .int 0), (0, .ref (ad 0)), (1, .int col)]) cx.1 cx.2.1 dX0_sumAtOnce_29 rfl hl (by decide) rfl (fun ls hl => ?_)
    refine k_loop 40 (fun i => (xw ad ca v)) (fun i => [(3, .int (nI i)), (2, .int (xSumAt v col i)), (0, .ref (ad 0)), (1, .int col)]) hI (lv_sub hl [0, 1, 2, 3] rfl) (fun H locs ls hI hl => ?_) (fun i hi H locs ls hI hl ih => ?_)
    · have hI : KI D A (xw ad ca v) s.heap H locs := hI
      have hl : lv_has ls 5 [(3, .int (nI 40)), (2, .int (xSumAt v col 40)), (0, .ref (ad 0)), (1, .int col)] := hl
      refine lv_iload_n cx.1 cx.2.1 dX0_sumAtOnce_30 rfl (lv_at hl 0 rfl) ?_
      refine lv_bipush (v := 40) cx.1 cx.2.1 dX0_sumAtOnce_31 (by decide) ?_
      refine lv_icmp_ge (tgt := 61) cx.1 cx.2.1 dX0_sumAtOnce_33 (by decide) (fun _ => ?_) (fun h9 => absurd (by decide : (40 : Int32) ≤ nI 40) h9)
      refine lv_iload_n cx.1 cx.2.1 dX0_sumAtOnce_61 rfl (lv_at hl 1 rfl) ?_
      exact ke_i cx hr hlk hI (Nat.zero_le _) (Nat.zero_le _) dX0_sumAtOnce_62 (congrArg (fun z => some (Value.int z)) (by simp [c_2])) rfl
    · have hI : KI D A (xw ad ca v) s.heap H locs := hI
      have hl : lv_has ls 5 [(3, .int (nI i)), (2, .int (xSumAt v col i)), (0, .ref (ad 0)), (1, .int col)] := hl
      refine lv_iload_n cx.1 cx.2.1 dX0_sumAtOnce_30 rfl (lv_at hl 0 rfl) ?_
      refine lv_bipush (v := 40) cx.1 cx.2.1 dX0_sumAtOnce_31 (by decide) ?_
      refine lv_icmp_ge (tgt := 61) cx.1 cx.2.1 dX0_sumAtOnce_33 (by decide) (fun h9 => absurd h9 (nI_ge hi (by decide))) (fun _ => ?_)
      refine lv_aload_n cx.1 cx.2.1 dX0_sumAtOnce_36 rfl (lv_at hl 2 rfl) ?_
      refine lv_iload_n cx.1 cx.2.1 dX0_sumAtOnce_37 rfl (lv_at hl 0 rfl) ?_
      refine lv_iload_n cx.1 cx.2.1 dX0_sumAtOnce_38 rfl (lv_at hl 3 rfl) ?_
      refine xc_i 2 cx (hl.1.trans hml.symm) (kX0_broughtColumn l D ca ad v (nI i) col (vp_in_nI hi (by decide))) hI wk_187 wk_184 wk_186 wq_3 ⟨rfl, by decide +kernel⟩ rfl ⟨rfl, rfl⟩ ⟨Nat.le_of_ble_eq_true rfl, Nat.le_of_ble_eq_true rfl⟩ (Nat.le_of_ble_eq_true rfl) dX0_sumAtOnce_39 ⟨Nat.zero_le _, Nat.zero_le _⟩ rfl (fun H locs hI => ?_)
      refine lv_istore (lv' := [(4, .int (xBro v (nI i) col)), (3, .int (nI i)), (2, .int (xSumAt v col i)), (0, .ref (ad 0)), (1, .int col)]) cx.1 cx.2.1 dX0_sumAtOnce_42 hl (by decide) rfl (fun ls hl => ?_)
      refine lv_iload cx.1 cx.2.1 dX0_sumAtOnce_44 (lv_at hl 0 rfl) ?_
      refine lv_iconst (v := (-1)) cx.1 cx.2.1 dX0_sumAtOnce_46 (by decide) ?_
      refine lv_icmp_eq (tgt := 55) cx.1 cx.2.1 dX0_sumAtOnce_47 (by decide) (fun c_5 => ?_) (fun c_5 => ?_)
      · refine lv_iinc (v := nI (i + 1)) (lv' := [(3, .int (nI (i + 1))), (4, .int (xBro v (nI i) col)), (2, .int (xSumAt v col i)), (0, .ref (ad 0)), (1, .int col)]) cx.1 cx.2.1 dX0_sumAtOnce_55 hl (k := 1) rfl (nI_1 i) (by decide) rfl (fun ls hl => ?_)
        refine lv_goto (tgt := 30) cx.1 cx.2.1 dX0_sumAtOnce_58 (by decide) ?_
        refine ih _ _ _ ?_ ?_
        · show KI D A (xw ad ca v) s.heap _ _
          exact hI
        · show lv_has _ _ [(3, .int (nI (i + 1))), (2, .int (xSumAt v col (i + 1))), (0, .ref (ad 0)), (1, .int col)]
          rw [show xSumAt v col (i + 1) = xSumAt v col i from (by simp [c_5, xSumAt_t, xSumAt_f])]
          exact lv_sub hl [0, 2, 3, 4] rfl
      · refine lv_iload_n cx.1 cx.2.1 dX0_sumAtOnce_50 rfl (lv_at hl 2 rfl) ?_
        refine lv_iload cx.1 cx.2.1 dX0_sumAtOnce_51 (lv_at hl 0 rfl) ?_
        refine lv_iadd cx.1 cx.2.1 dX0_sumAtOnce_53 ?_
        refine lv_istore_n (lv' := [(2, .int ((xSumAt v col i) + (xBro v (nI i) col))), (4, .int (xBro v (nI i) col)), (3, .int (nI i)), (0, .ref (ad 0)), (1, .int col)]) cx.1 cx.2.1 dX0_sumAtOnce_54 rfl hl (by decide) rfl (fun ls hl => ?_)
        refine lv_iinc (v := nI (i + 1)) (lv' := [(3, .int (nI (i + 1))), (2, .int ((xSumAt v col i) + (xBro v (nI i) col))), (4, .int (xBro v (nI i) col)), (0, .ref (ad 0)), (1, .int col)]) cx.1 cx.2.1 dX0_sumAtOnce_55 hl (k := 2) rfl (nI_1 i) (by decide) rfl (fun ls hl => ?_)
        refine lv_goto (tgt := 30) cx.1 cx.2.1 dX0_sumAtOnce_58 (by decide) ?_
        refine ih _ _ _ ?_ ?_
        · show KI D A (xw ad ca v) s.heap _ _
          exact hI
        · show lv_has _ _ [(3, .int (nI (i + 1))), (2, .int (xSumAt v col (i + 1))), (0, .ref (ad 0)), (1, .int col)]
          rw [show xSumAt v col (i + 1) = (xSumAt v col i) + (xBro v (nI i) col) from (by simp [c_5, xSumAt_t, xSumAt_f])]
          exact lv_sub hl [0, 1, 3, 4] rfl
  · refine lv_iconst (v := 0) cx.1 cx.2.1 dX0_sumAtOnce_24 (by decide) ?_
    exact ke_i cx hr hlk hI (Nat.zero_le _) (Nat.zero_le _) dX0_sumAtOnce_25 (congrArg (fun z => some (Value.int z)) (by simp [c_2])) rfl
set_option maxHeartbeats 4000000 in
set_option maxRecDepth 100000 in
theorem kS_setPace (l : Launch) (D : va_G) (ca : Nat → ClassId) (ad : Nat → Nat) (v : XS) (ch lag : Int32) (h1 : xWithin ch 1 40 = true) (h2 : xWithin lag 0 100 = true) : CM l yX0_setPace cX0_setPace 3 none (KR 1 22) D ca (xw ad ca v) [.ref (ad 0), .int ch, .int lag] none (xw ad ca (xUl (xUk v ch) lag)) := by
  refine CM.of (by decide) (Nat.le_of_ble_eq_true rfl) ?_
  intro p e s m below meth c A ls cx hml hr hlk hI hl
  have hl : lv_has ls 3 [(0, .ref (ad 0)), (1, .int ch), (2, .int lag)] := hl
  refine lv_iload_n cx.1 cx.2.1 dX0_setPace_0 rfl (lv_at hl 1 rfl) ?_
  refine lv_iconst (v := 1) cx.1 cx.2.1 dX0_setPace_1 (by decide) ?_
  refine lv_bipush (v := 40) cx.1 cx.2.1 dX0_setPace_2 (by decide) ?_
  refine ks_i 3 cx (hl.1.trans hml.symm) (kX0_isWithin l D ca ch 1 40) hI wk_92 wk_90 wk_91 wk_1 ⟨by decide, by decide, by decide +kernel⟩ rfl ⟨rfl, rfl⟩ ⟨Nat.le_of_ble_eq_true rfl, Nat.le_of_ble_eq_true rfl⟩ (Nat.le_of_ble_eq_true rfl) dX0_setPace_4 ⟨Nat.zero_le _, Nat.zero_le _⟩ rfl (fun H locs hI => ?_)
  refine kb_eq (tgt := 20) cx dX0_setPace_7 (by decide) (fun h9 => absurd h9 (by rw [h1]; decide)) (fun _ => ?_)
  refine lv_iload_n cx.1 cx.2.1 dX0_setPace_10 rfl (lv_at hl 2 rfl) ?_
  refine lv_iconst (v := 0) cx.1 cx.2.1 dX0_setPace_11 (by decide) ?_
  refine lv_bipush (v := 100) cx.1 cx.2.1 dX0_setPace_12 (by decide) ?_
  refine ks_i 3 cx (hl.1.trans hml.symm) (kX0_isWithin l D ca lag 0 100) hI wk_92 wk_90 wk_91 wk_1 ⟨by decide, by decide, by decide +kernel⟩ rfl ⟨rfl, rfl⟩ ⟨Nat.le_of_ble_eq_true rfl, Nat.le_of_ble_eq_true rfl⟩ (Nat.le_of_ble_eq_true rfl) dX0_setPace_14 ⟨Nat.zero_le _, Nat.zero_le _⟩ rfl (fun H locs hI => ?_)
  refine kb_ne (tgt := 30) cx dX0_setPace_17 (by decide) (fun _ => ?_) (fun h9 => absurd h9 (by rw [h2]; decide))
  refine lv_aload_n cx.1 cx.2.1 dX0_setPace_30 rfl (lv_at hl 0 rfl) ?_
  refine lv_iload_n cx.1 cx.2.1 dX0_setPace_31 rfl (lv_at hl 1 rfl) ?_
  refine xp_10 cx hI dX0_setPace_32 (fun H locs hI => ?_)
  refine lv_aload_n cx.1 cx.2.1 dX0_setPace_35 rfl (lv_at hl 0 rfl) ?_
  refine lv_iload_n cx.1 cx.2.1 dX0_setPace_36 rfl (lv_at hl 2 rfl) ?_
  refine xp_11 cx hI dX0_setPace_37 (fun H locs hI => ?_)
  exact ke_v cx hr hlk hI (Nat.zero_le _) (Nat.zero_le _) dX0_setPace_40 rfl rfl
end
section
/-! MINE: the law's worlds (the class's cells, the law's two arrays, what else there is), a row an access, a row a call. -/
def kSt (n : Nat) (v v' : XS) : XS := if n = 0 then v' else v
def lt (oa cb : Nat) (ca : Nat → ClassId) (o c : Nat → Int32) (tl : va_W) : va_W := (oa, .inl (ca 0, 40, .inl o)) :: (cb, .inl (ca 0, 7, .inl c)) :: tl
def lw (ad : Nat → Nat) (oa cb : Nat) (ca : Nat → ClassId) (v : XS) (o c : Nat → Int32) (tl : va_W) : va_W := xw ad ca v ++ lt oa cb ca o c tl
def hw (sa : Nat) (ca : Nat → ClassId) (h : Nat → Int32) : va_W := [(sa, .inl (ca 0, 6, .inl h))]
/-- as CM, with an end that is one of many -/
def CG (l : Launch) (y : MethodName) (cd : ByteArray) (ml : Nat) (rt : Option FieldType) (rm : Room) (D : va_G) (ca : Nat → ClassId) (w : va_W) (As : List Value) (o : Option Value) (Φ : va_W → Prop) (mc ms : Nat) : Prop :=
  ∀ sz : Nat, Met l y (.code y cd ml rt :: WL) rm (KPE D ca w As sz) (fun _ st oc t => oc = .returned o ∧ (∃ w', Φ w' ∧ va_P D vwCl w' t.heap) ∧ va_F (va_A w sz) st t) mc ms (va_A w sz)
theorem CG.of {l : Launch} {y : MethodName} {cd : ByteArray} {ml : Nat} {rt : Option FieldType} {rm : Room} {D : va_G} {ca : Nat → ClassId} {w : va_W} {As : List Value} {o : Option Value} {Φ : va_W → Prop} {mc ms : Nat} (hy : plainName y.cls = true) (hn : (lg_sl As).length ≤ ml)
    (body : ∀ (p : Program) (e : Env) (s : State) (m : MethodId) (below : List Frame) (meth : Method) (c : Code) (A : Nat → Prop) (ls : Array Slot), KC p c cd s As.toArray m y.cls D ca → c.maxLocals = ml → meth.sig.returnType = rt → meth.locks = false → KE A s s.heap → KI D A w s.heap s.heap [] → lv_has ls ml (lv_args 0 As) →
      W p l e rm s m As.toArray below meth c s.heap [] 0 0 (MQ below (fun _ st oc t => oc = .returned o ∧ (∃ w', Φ w' ∧ va_P D vwCl w' t.heap) ∧ va_F A st t) As.toArray s mc ms A) (F0 m 0 ls [])) : CG l y cd ml rt rm D ca w As o Φ mc ms := by
  intro sz
  refine Met.ofW (cc := cd) (maxL := ml) (ret := rt) hy rfl ?_
  intro p e s m args below meth c s₁ B hml hv
  obtain ⟨rfl, hsz, hP, hK, hD0, hE⟩ := hv
  have hts := atoms_spec (ws := .code y cd ml rt :: WL) B.pre
  have hown : s.vm.findClass y.cls = some m.cls := findClass_of_methodNamed B.named
  subst hsz
  have hD := hD0.self (sz := s.heap.size)
  have hl := lv_entry As (n := ml) hn
  rw [lg_entry_eq]
  exact body p e s m below meth c _ _ ⟨B.exec, B.bytes, hown, fun w hw => hts w (List.mem_cons_of_mem _ hw), hK⟩ hml B.returns B.notSynchronized hE ⟨hP, hD, va_S.rf, fun q h => Or.inr h⟩ hl
section LROWS
variable {p : Program} {l : Launch} {e : Env} {R : Room} {s : State} {m : MethodId} {args : Array Value} {below : List Frame} {meth : Method} {c0 : Code} {H : Heap} {locs : List Loc} {cells slots : Nat} {Q : State → Prop}
variable {cc : ByteArray} {pc : Nat} {ls : Array Slot} {rest : List Value} {D : va_G} {ca : Nat → ClassId} {A : Nat → Prop} {ad : Nat → Nat} {own : String} {oa cb sa : Nat} {v : XS} {o c h : Nat → Int32} {tl : va_W} {a0 a1 a2 a3 a4 a5 a6 : Int32}
theorem lr_o (cx : KC p c0 cc s args m own D ca) (hI : KI D A (lw ad oa cb ca v o c tl) s.heap H locs) {i : Int32} (hin : vp_in i 40) (hdg : decode cc pc = .ok (.iaload, 1)) (k : W p l e R s m args below meth c0 H locs cells slots Q (F0 m (pc + 1) ls (.int (o i.toNatClampNeg) :: rest))) : W p l e R s m args below meth c0 H locs cells slots Q (F0 m pc ls (.int i :: .ref oa :: rest)) := va_iald cx.1 cx.2.1 cx.2.2.2.2 hI.1 9 0 rfl rfl hin hdg k
theorem lr_c (cx : KC p c0 cc s args m own D ca) (hI : KI D A (lw ad oa cb ca v o c tl) s.heap H locs) {i : Int32} (hin : vp_in i 7) (hdg : decode cc pc = .ok (.iaload, 1)) (k : W p l e R s m args below meth c0 H locs cells slots Q (F0 m (pc + 1) ls (.int (c i.toNatClampNeg) :: rest))) : W p l e R s m args below meth c0 H locs cells slots Q (F0 m pc ls (.int i :: .ref cb :: rest)) := va_iald cx.1 cx.2.1 cx.2.2.2.2 hI.1 10 0 rfl rfl hin hdg k
theorem lr_h (cx : KC p c0 cc s args m own D ca) (hI : KI D A (lw ad oa cb ca v o c (hw sa ca h)) s.heap H locs) {i : Int32} (hin : vp_in i 6) (hdg : decode cc pc = .ok (.iaload, 1)) (k : W p l e R s m args below meth c0 H locs cells slots Q (F0 m (pc + 1) ls (.int (h i.toNatClampNeg) :: rest))) : W p l e R s m args below meth c0 H locs cells slots Q (F0 m pc ls (.int i :: .ref sa :: rest)) := va_iald cx.1 cx.2.1 cx.2.2.2.2 hI.1 11 0 rfl rfl hin hdg k
theorem ls_o (cx : KC p c0 cc s args m own D ca) (hI : KI D A (lw ad oa cb ca v o c tl) s.heap H locs) {i y : Int32} (hin : vp_in i 40) (hdg : decode cc pc = .ok (.iastore, 1)) (k : ∀ (H : Heap) (locs : List Loc), KI D A (lw ad oa cb ca v (upd o i.toNatClampNeg y) c tl) s.heap H locs → W p l e R s m args below meth c0 H locs cells slots Q (F0 m (pc + 1) ls rest)) : W p l e R s m args below meth c0 H locs cells slots Q (F0 m pc ls (.int y :: .int i :: .ref oa :: rest)) := va_iast cx.1 cx.2.1 cx.2.2.2.2 hI.1 hI.2.1 hI.2.2.1 9 0 rfl rfl hin hdg (fun H1 locs1 hP hD hS => k H1 locs1 ⟨hP, hD, hS, hI.2.2.2⟩)
theorem ls_c (cx : KC p c0 cc s args m own D ca) (hI : KI D A (lw ad oa cb ca v o c tl) s.heap H locs) {i y : Int32} (hin : vp_in i 7) (hdg : decode cc pc = .ok (.iastore, 1)) (k : ∀ (H : Heap) (locs : List Loc), KI D A (lw ad oa cb ca v o (upd c i.toNatClampNeg y) tl) s.heap H locs → W p l e R s m args below meth c0 H locs cells slots Q (F0 m (pc + 1) ls rest)) : W p l e R s m args below meth c0 H locs cells slots Q (F0 m pc ls (.int y :: .int i :: .ref cb :: rest)) := va_iast cx.1 cx.2.1 cx.2.2.2.2 hI.1 hI.2.1 hI.2.2.1 10 0 rfl rfl hin hdg (fun H1 locs1 hP hD hS => k H1 locs1 ⟨hP, hD, hS, hI.2.2.2⟩)
theorem ls_h (cx : KC p c0 cc s args m own D ca) (hI : KI D A (lw ad oa cb ca v o c (hw sa ca h)) s.heap H locs) {i y : Int32} (hin : vp_in i 6) (hdg : decode cc pc = .ok (.iastore, 1)) (k : ∀ (H : Heap) (locs : List Loc), KI D A (lw ad oa cb ca v o c (hw sa ca (upd h i.toNatClampNeg y))) s.heap H locs → W p l e R s m args below meth c0 H locs cells slots Q (F0 m (pc + 1) ls rest)) : W p l e R s m args below meth c0 H locs cells slots Q (F0 m pc ls (.int y :: .int i :: .ref sa :: rest)) := va_iast cx.1 cx.2.1 cx.2.2.2.2 hI.1 hI.2.1 hI.2.2.1 11 0 rfl rfl hin hdg (fun H1 locs1 hP hD hS => k H1 locs1 ⟨hP, hD, hS, hI.2.2.2⟩)
theorem ls_c0 (cx : KC p c0 cc s args m own D ca) (hI : KI D A (lw ad oa cb ca v o (lK a0 a1 a2 a3 a4 a5 a6) tl) s.heap H locs) {y : Int32} (hdg : decode cc pc = .ok (.iastore, 1)) (k : ∀ (H : Heap) (locs : List Loc), KI D A (lw ad oa cb ca v o (lK y a1 a2 a3 a4 a5 a6) tl) s.heap H locs → W p l e R s m args below meth c0 H locs cells slots Q (F0 m (pc + 1) ls rest)) : W p l e R s m args below meth c0 H locs cells slots Q (F0 m pc ls (.int y :: .int 0 :: .ref cb :: rest)) := ls_c cx hI (vp_in_nI (n := 0) (by decide) (by decide)) hdg (fun H1 locs1 hJ => k H1 locs1 (by have e9 : upd (lK a0 a1 a2 a3 a4 a5 a6) ((0 : Int32).toNatClampNeg) y = lK y a1 a2 a3 a4 a5 a6 := lK_u0 a0 a1 a2 a3 a4 a5 a6 y; rw [e9] at hJ; exact hJ))
theorem ls_c1 (cx : KC p c0 cc s args m own D ca) (hI : KI D A (lw ad oa cb ca v o (lK a0 a1 a2 a3 a4 a5 a6) tl) s.heap H locs) {y : Int32} (hdg : decode cc pc = .ok (.iastore, 1)) (k : ∀ (H : Heap) (locs : List Loc), KI D A (lw ad oa cb ca v o (lK a0 y a2 a3 a4 a5 a6) tl) s.heap H locs → W p l e R s m args below meth c0 H locs cells slots Q (F0 m (pc + 1) ls rest)) : W p l e R s m args below meth c0 H locs cells slots Q (F0 m pc ls (.int y :: .int 1 :: .ref cb :: rest)) := ls_c cx hI (vp_in_nI (n := 1) (by decide) (by decide)) hdg (fun H1 locs1 hJ => k H1 locs1 (by have e9 : upd (lK a0 a1 a2 a3 a4 a5 a6) ((1 : Int32).toNatClampNeg) y = lK a0 y a2 a3 a4 a5 a6 := lK_u1 a0 a1 a2 a3 a4 a5 a6 y; rw [e9] at hJ; exact hJ))
theorem ls_c2 (cx : KC p c0 cc s args m own D ca) (hI : KI D A (lw ad oa cb ca v o (lK a0 a1 a2 a3 a4 a5 a6) tl) s.heap H locs) {y : Int32} (hdg : decode cc pc = .ok (.iastore, 1)) (k : ∀ (H : Heap) (locs : List Loc), KI D A (lw ad oa cb ca v o (lK a0 a1 y a3 a4 a5 a6) tl) s.heap H locs → W p l e R s m args below meth c0 H locs cells slots Q (F0 m (pc + 1) ls rest)) : W p l e R s m args below meth c0 H locs cells slots Q (F0 m pc ls (.int y :: .int 2 :: .ref cb :: rest)) := ls_c cx hI (vp_in_nI (n := 2) (by decide) (by decide)) hdg (fun H1 locs1 hJ => k H1 locs1 (by have e9 : upd (lK a0 a1 a2 a3 a4 a5 a6) ((2 : Int32).toNatClampNeg) y = lK a0 a1 y a3 a4 a5 a6 := lK_u2 a0 a1 a2 a3 a4 a5 a6 y; rw [e9] at hJ; exact hJ))
theorem ls_c3 (cx : KC p c0 cc s args m own D ca) (hI : KI D A (lw ad oa cb ca v o (lK a0 a1 a2 a3 a4 a5 a6) tl) s.heap H locs) {y : Int32} (hdg : decode cc pc = .ok (.iastore, 1)) (k : ∀ (H : Heap) (locs : List Loc), KI D A (lw ad oa cb ca v o (lK a0 a1 a2 y a4 a5 a6) tl) s.heap H locs → W p l e R s m args below meth c0 H locs cells slots Q (F0 m (pc + 1) ls rest)) : W p l e R s m args below meth c0 H locs cells slots Q (F0 m pc ls (.int y :: .int 3 :: .ref cb :: rest)) := ls_c cx hI (vp_in_nI (n := 3) (by decide) (by decide)) hdg (fun H1 locs1 hJ => k H1 locs1 (by have e9 : upd (lK a0 a1 a2 a3 a4 a5 a6) ((3 : Int32).toNatClampNeg) y = lK a0 a1 a2 y a4 a5 a6 := lK_u3 a0 a1 a2 a3 a4 a5 a6 y; rw [e9] at hJ; exact hJ))
theorem ls_c4 (cx : KC p c0 cc s args m own D ca) (hI : KI D A (lw ad oa cb ca v o (lK a0 a1 a2 a3 a4 a5 a6) tl) s.heap H locs) {y : Int32} (hdg : decode cc pc = .ok (.iastore, 1)) (k : ∀ (H : Heap) (locs : List Loc), KI D A (lw ad oa cb ca v o (lK a0 a1 a2 a3 y a5 a6) tl) s.heap H locs → W p l e R s m args below meth c0 H locs cells slots Q (F0 m (pc + 1) ls rest)) : W p l e R s m args below meth c0 H locs cells slots Q (F0 m pc ls (.int y :: .int 4 :: .ref cb :: rest)) := ls_c cx hI (vp_in_nI (n := 4) (by decide) (by decide)) hdg (fun H1 locs1 hJ => k H1 locs1 (by have e9 : upd (lK a0 a1 a2 a3 a4 a5 a6) ((4 : Int32).toNatClampNeg) y = lK a0 a1 a2 a3 y a5 a6 := lK_u4 a0 a1 a2 a3 a4 a5 a6 y; rw [e9] at hJ; exact hJ))
theorem ls_c5 (cx : KC p c0 cc s args m own D ca) (hI : KI D A (lw ad oa cb ca v o (lK a0 a1 a2 a3 a4 a5 a6) tl) s.heap H locs) {y : Int32} (hdg : decode cc pc = .ok (.iastore, 1)) (k : ∀ (H : Heap) (locs : List Loc), KI D A (lw ad oa cb ca v o (lK a0 a1 a2 a3 a4 y a6) tl) s.heap H locs → W p l e R s m args below meth c0 H locs cells slots Q (F0 m (pc + 1) ls rest)) : W p l e R s m args below meth c0 H locs cells slots Q (F0 m pc ls (.int y :: .int 5 :: .ref cb :: rest)) := ls_c cx hI (vp_in_nI (n := 5) (by decide) (by decide)) hdg (fun H1 locs1 hJ => k H1 locs1 (by have e9 : upd (lK a0 a1 a2 a3 a4 a5 a6) ((5 : Int32).toNatClampNeg) y = lK a0 a1 a2 a3 a4 y a6 := lK_u5 a0 a1 a2 a3 a4 a5 a6 y; rw [e9] at hJ; exact hJ))
theorem ls_c6 (cx : KC p c0 cc s args m own D ca) (hI : KI D A (lw ad oa cb ca v o (lK a0 a1 a2 a3 a4 a5 a6) tl) s.heap H locs) {y : Int32} (hdg : decode cc pc = .ok (.iastore, 1)) (k : ∀ (H : Heap) (locs : List Loc), KI D A (lw ad oa cb ca v o (lK a0 a1 a2 a3 a4 a5 y) tl) s.heap H locs → W p l e R s m args below meth c0 H locs cells slots Q (F0 m (pc + 1) ls rest)) : W p l e R s m args below meth c0 H locs cells slots Q (F0 m pc ls (.int y :: .int 6 :: .ref cb :: rest)) := ls_c cx hI (vp_in_nI (n := 6) (by decide) (by decide)) hdg (fun H1 locs1 hJ => k H1 locs1 (by have e9 : upd (lK a0 a1 a2 a3 a4 a5 a6) ((6 : Int32).toNatClampNeg) y = lK a0 a1 a2 a3 a4 a5 y := lK_u6 a0 a1 a2 a3 a4 a5 a6 y; rw [e9] at hJ; exact hJ))
variable {y : MethodName} {bytes : ByteArray} {maxL index n mc ms : Nat} {ret : Option FieldType} {rm : Room} {As : List Value} {st0 : List Value} {r : Int32} {ov : Option Value} {φ : Prop} {ψ : String → Prop} {w w' pre post W0 W1 : va_W} {Φ : va_W → Prop}
/-- the class's method, that answers -/
theorem lc_i (n : Nat) {v v' : XS} (cx : KC p c0 cc s args m own D ca) (hls : ls.size = c0.maxLocals) (hM : CM l y bytes maxL ret rm D ca (xw ad ca v) (.ref (ad 0) :: As) (some (.int r)) (xw ad ca v')) (hI : KI D A (lw ad oa cb ca v o c tl) s.heap H locs)
    (h0 : Cond.code y bytes maxL ret ∈ WL) (h1 : Cond.methodLink own index y ∈ WL) (h2 : Cond.instanceMethod y ∈ WL) (h3 : Cond.selects RX0 y y ∈ WL)
    (hd : y.cls = RX0 ∧ (parseMethodDescriptor y.desc).map (fun d => d.parameters.length) = some n) (hn : As.length = n) (hrm : rm.cells = 0 ∧ rm.slots = 0) (hR : rm.frames + 1 ≤ R.frames ∧ 8 + (maxL + 11) + rm.locals ≤ R.locals) (hW : (rest.map fun v => v.category).sum ≤ 8) (hdg : decode cc pc = .ok (.invokevirtual index, 3)) (hf : cells ≤ R.cells ∧ slots ≤ R.slots)
    (hst : st0 = As.reverse ++ .ref (ad 0) :: rest) (kk : ∀ H1 locs1, KI D A (lw ad oa cb ca v' o c tl) s.heap H1 locs1 → W p l e R s m args below meth c0 H1 locs1 cells slots Q (F0 m (pc + 3) ls (.int r :: rest))) : W p l e R s m args below meth c0 H locs cells slots Q (F0 m pc ls st0) :=
  k_callV (C := RX0) (T := TX0) (N := 12) (ci := 0) n [] (lt oa cb ca o c tl) cx hls hM hI rfl rfl xw_ad rfl rfl h0 h1 h2 h3 wk_1 ⟨hd.1, by rw [hd.1]; decide, by rw [hd.1]; decide, hd.2⟩ hn hrm hR hW hdg hf hst kk
theorem lc_v (n : Nat) {v v' : XS} (cx : KC p c0 cc s args m own D ca) (hls : ls.size = c0.maxLocals) (hM : CM l y bytes maxL ret rm D ca (xw ad ca v) (.ref (ad 0) :: As) none (xw ad ca v')) (hI : KI D A (lw ad oa cb ca v o c tl) s.heap H locs)
    (h0 : Cond.code y bytes maxL ret ∈ WL) (h1 : Cond.methodLink own index y ∈ WL) (h2 : Cond.instanceMethod y ∈ WL) (h3 : Cond.selects RX0 y y ∈ WL)
    (hd : y.cls = RX0 ∧ (parseMethodDescriptor y.desc).map (fun d => d.parameters.length) = some n) (hn : As.length = n) (hrm : rm.cells = 0 ∧ rm.slots = 0) (hR : rm.frames + 1 ≤ R.frames ∧ 8 + (maxL + 11) + rm.locals ≤ R.locals) (hW : (rest.map fun v => v.category).sum ≤ 8) (hdg : decode cc pc = .ok (.invokevirtual index, 3)) (hf : cells ≤ R.cells ∧ slots ≤ R.slots)
    (hst : st0 = As.reverse ++ .ref (ad 0) :: rest) (kk : ∀ H1 locs1, KI D A (lw ad oa cb ca v' o c tl) s.heap H1 locs1 → W p l e R s m args below meth c0 H1 locs1 cells slots Q (F0 m (pc + 3) ls rest)) : W p l e R s m args below meth c0 H locs cells slots Q (F0 m pc ls st0) :=
  k_callV (C := RX0) (T := TX0) (N := 12) (ci := 0) n [] (lt oa cb ca o c tl) cx hls hM hI rfl rfl xw_ad rfl rfl h0 h1 h2 h3 wk_1 ⟨hd.1, by rw [hd.1]; decide, by rw [hd.1]; decide, hd.2⟩ hn hrm hR hW hdg hf hst kk
/-- the law's method over the whole world -/
theorem lc_w (n : Nat) (cx : KC p c0 cc s args m own D ca) (hls : ls.size = c0.maxLocals) (hM : CM l y bytes maxL ret rm D ca (lw ad oa cb ca v o c []) As (some (.int r)) (lw ad oa cb ca v o c [])) (hI : KI D A (lw ad oa cb ca v o c tl) s.heap H locs)
    (h0 : Cond.code y bytes maxL ret ∈ WL) (h1 : Cond.methodLink own index y ∈ WL) (h2 : Cond.static y ∈ WL) (h4 : Cond.initialized y.cls ∈ WL)
    (hd : y.cls ≠ "java/lang/invoke/MethodHandle" ∧ y.cls ≠ "java/lang/invoke/VarHandle" ∧ (parseMethodDescriptor y.desc).map (fun d => d.parameters.length) = some n) (hn : As.length = n) (hrm : rm.cells = 0 ∧ rm.slots = 0) (hR : rm.frames + 1 ≤ R.frames ∧ 8 + (maxL + 11) + rm.locals ≤ R.locals) (hW : (rest.map fun v => v.category).sum ≤ 8) (hdg : decode cc pc = .ok (.invokestatic index, 3)) (hf : cells ≤ R.cells ∧ slots ≤ R.slots)
    (hst : st0 = As.reverse ++ rest) (kk : ∀ H1 locs1, KI D A (lw ad oa cb ca v o c tl) s.heap H1 locs1 → W p l e R s m args below meth c0 H1 locs1 cells slots Q (F0 m (pc + 3) ls (.int r :: rest))) : W p l e R s m args below meth c0 H locs cells slots Q (F0 m pc ls st0) :=
  k_callS n [] tl cx hls hM hI rfl rfl rfl h0 h1 h2 h4 hd hn hrm hR hW hdg hf hst kk
/-- the law's method over its second array alone -/
theorem lc_c (n : Nat) (cx : KC p c0 cc s args m own D ca) (hls : ls.size = c0.maxLocals) (hM : CM l y bytes maxL ret rm D ca [(cb, .inl (ca 0, 7, .inl c))] As (some (.int r)) [(cb, .inl (ca 0, 7, .inl c))]) (hI : KI D A (lw ad oa cb ca v o c tl) s.heap H locs)
    (h0 : Cond.code y bytes maxL ret ∈ WL) (h1 : Cond.methodLink own index y ∈ WL) (h2 : Cond.static y ∈ WL) (h4 : Cond.initialized y.cls ∈ WL)
    (hd : y.cls ≠ "java/lang/invoke/MethodHandle" ∧ y.cls ≠ "java/lang/invoke/VarHandle" ∧ (parseMethodDescriptor y.desc).map (fun d => d.parameters.length) = some n) (hn : As.length = n) (hrm : rm.cells = 0 ∧ rm.slots = 0) (hR : rm.frames + 1 ≤ R.frames ∧ 8 + (maxL + 11) + rm.locals ≤ R.locals) (hW : (rest.map fun v => v.category).sum ≤ 8) (hdg : decode cc pc = .ok (.invokestatic index, 3)) (hf : cells ≤ R.cells ∧ slots ≤ R.slots)
    (hst : st0 = As.reverse ++ rest) (kk : ∀ H1 locs1, KI D A (lw ad oa cb ca v o c tl) s.heap H1 locs1 → W p l e R s m args below meth c0 H1 locs1 cells slots Q (F0 m (pc + 3) ls (.int r :: rest))) : W p l e R s m args below meth c0 H locs cells slots Q (F0 m pc ls st0) :=
  k_callS n (xw ad ca v ++ [(oa, .inl (ca 0, 40, .inl o))]) tl cx hls hM hI rfl rfl rfl h0 h1 h2 h4 hd hn hrm hR hW hdg hf hst kk
/-- asking: what is thrown is caught there -/
theorem lc_h (n : Nat) {v v' : XS} {hh : List (Nat × Nat × Nat × Nat)} (cx : KC p c0 cc s args m own D ca) (hE : KE A s s.heap) (hls : ls.size = c0.maxLocals) (hM : CH l y bytes maxL ret hh rm D ca (xw ad ca v) As (some (.int r)) (xw ad ca v')) (hI : KI D A (lw ad oa cb ca v o c tl) s.heap H locs)
    (h0 : Cond.codeWith y bytes maxL ret hh ∈ WL) (h1 : Cond.methodLink own index y ∈ WL) (h2 : Cond.static y ∈ WL) (h4 : Cond.initialized y.cls ∈ WL)
    (hd : y.cls ≠ "java/lang/invoke/MethodHandle" ∧ y.cls ≠ "java/lang/invoke/VarHandle" ∧ (parseMethodDescriptor y.desc).map (fun d => d.parameters.length) = some n) (hn : As.length = n) (hrm : rm.cells = 1 ∧ rm.slots = 6) (hR : rm.frames + 1 ≤ R.frames ∧ 8 + (maxL + 11) + rm.locals ≤ R.locals) (hW : (rest.map fun v => v.category).sum ≤ 8) (hdg : decode cc pc = .ok (.invokestatic index, 3)) (hf : cells + 1 ≤ R.cells ∧ slots + 6 ≤ R.slots)
    (hst : st0 = As.reverse ++ rest) (kk : ∀ H1 locs1, KI D A (lw ad oa cb ca v' o c tl) s.heap H1 locs1 → W p l e R s m args below meth c0 H1 locs1 (cells + 1) (slots + 6) Q (F0 m (pc + 3) ls (.int r :: rest))) : W p l e R s m args below meth c0 H locs cells slots Q (F0 m pc ls st0) :=
  k_callH n [] (lt oa cb ca o c tl) cx hE hls hM hI rfl rfl xw_ad h0 h1 h2 h4 hd hn hrm hR hW hdg hf hst kk
/-- a static method that may throw: kx is where it throws -/
theorem k_callXS (n : Nat) (cx : KC p c0 cc s args m own D ca) (hE : KE A s s.heap) (hls : ls.size = c0.maxLocals) (hM : CX l y bytes maxL ret rm D ca w As φ ov w' ψ)
    (hI : KI D A w s.heap H locs) (had : w'.map Prod.fst = w.map Prod.fst)
    (h0 : Cond.code y bytes maxL ret ∈ WL) (h1 : Cond.methodLink own index y ∈ WL) (h2 : Cond.static y ∈ WL) (h4 : Cond.initialized y.cls ∈ WL)
    (hd : y.cls ≠ "java/lang/invoke/MethodHandle" ∧ y.cls ≠ "java/lang/invoke/VarHandle" ∧ (parseMethodDescriptor y.desc).map (fun d => d.parameters.length) = some n) (hn : As.length = n)
    (hrm : rm.cells = 1 ∧ rm.slots = 6) (hR : rm.frames + 1 ≤ R.frames ∧ 8 + (maxL + 11) + rm.locals ≤ R.locals) (hW : (rest.map fun v => v.category).sum ≤ 8) (hdg : decode cc pc = .ok (.invokestatic index, 3)) (hf : cells + 1 ≤ R.cells ∧ slots + 6 ≤ R.slots)
    (hst : st0 = As.reverse ++ rest)
    (kx : ∀ E ce q9 H1 locs1, ψ E → KI D A w s.heap H1 locs1 → H1[q9]? = some ce → ce.vm = .none → s.vm.findClass E = some ce.cls → vx_W p l e R s m args below meth c0 H1 locs1 (cells + 1) (slots + 6) Q (F0 m pc ls rest) q9)
    (kk : φ → ∀ H1 locs1, KI D A w' s.heap H1 locs1 → W p l e R s m args below meth c0 H1 locs1 (cells + 1) (slots + 6) Q (F0 m (pc + 3) ls (ov.toList ++ rest))) : W p l e R s m args below meth c0 H locs cells slots Q (F0 m pc ls st0) := by
  have e9 : w = [] ++ (w ++ []) := (List.append_nil w).symm
  have e8 : w' = [] ++ (w' ++ []) := (List.append_nil w').symm
  obtain ⟨hP, hD, hS, hA⟩ := hI
  rw [e9] at hP hD
  have hF := kf_free hD hS hA
  have hr := vx_runS (e := e) (below := below) (meth := meth) (locs := locs) (As := As) (rest := rest) ⟨cx.1, cx.2.1, rfl, cx.2.2.1, cx.2.2.2.1⟩ (hM H.size) (va_cwS n cx.2.2.2.1 (wk_S h0 h1 h2 h4) rfl hrm.1 hrm.2 hd hR) (k_preSE cx.2.2.2.2 (kf_at hP) (kf_Dat hD) hE hS hF) (g := F0 m pc ls st0) rfl hn hls hst (lv_room hW) hdg hf
  intro T hT X
  rcases hr T hT X with ⟨v, st₀, t, T', L, h0, X', hL, e1, e2, ⟨hφ, hv, hP1, hz, hk⟩, st⟩ | ⟨q, st₀, t, T', L, E, ce, h0, X', hL, e1, e2, ⟨hψ, hP1, hz, hk⟩, hce, hcv, hcl, st⟩
  · have hv : v = ov := by injection hv
    subst hv
    rw [h0] at hz hk
    have hk1 : ∀ q : Nat, q < H.size → ¬ va_A w H.size q → T'.heap[q]? = H[q]? := fun q h1 h2 => by rw [e1]; exact hk q h1 h2
    have hz1 : H.size ≤ T'.heap.size := by rw [e1]; exact hz
    obtain ⟨t2, a1, b1⟩ := kk hφ T'.heap (locs ++ L) ⟨by rw [e8]; exact kf_P hP hD hk1 (by rw [e1]; exact hP1), by rw [e8]; exact kf_Dw had hD, ⟨Nat.le_trans hS.1 hz1, fun q h1 h2 => by rw [hk1 q (Nat.lt_of_lt_of_le h1 hS.1) (fun z => h2 (hF q z))]; exact hS.2.1 q h1 h2, fun q hq => by
        rcases List.mem_append.mp hq with h | h
        · exact hS.2.2 q h
        · exact hF _ (hL q h)⟩, hA⟩ T' rfl X'
    exact ⟨t2, st t2 a1, b1⟩
  · rw [h0] at hz hk
    have hk1 : ∀ q : Nat, q < H.size → ¬ va_A w H.size q → T'.heap[q]? = H[q]? := fun q h1 h2 => by rw [e1]; exact hk q h1 h2
    have hz1 : H.size ≤ T'.heap.size := by rw [e1]; exact hz
    obtain ⟨t2, a1, b1⟩ := kx E ce q T'.heap (locs ++ L) hψ ⟨by rw [e9]; exact kf_P hP hD hk1 (by rw [e1]; exact hP1), by rw [e9]; exact hD, ⟨Nat.le_trans hS.1 hz1, fun q h1 h2 => by rw [hk1 q (Nat.lt_of_lt_of_le h1 hS.1) (fun z => h2 (hF q z))]; exact hS.2.1 q h1 h2, fun q hq => by
        rcases List.mem_append.mp hq with h | h
        · exact hS.2.2 q h
        · exact hF _ (hL q h)⟩, hA⟩ (by rw [e1]; exact hce) hcv hcl T' rfl X'
    exact ⟨t2, st.trans a1, b1⟩
/-- what is thrown goes on to the caller -/
theorem kx_out {E : String} {ce : Cell} {q : Nat} {Qc : Array Value → State → Outcome → State → Prop} (htab : ∀ x ∈ c0.exceptionTable.toList, False) (hlk : meth.locks = false) (hI : KI D A w s.heap H locs) (hψ : ψ E) (hq : H[q]? = some ce) (hv : ce.vm = .none) (hcl : s.vm.findClass E = some ce.cls) (hc : cells ≤ mc) (hs : slots ≤ ms) : vx_W p l e R s m args below meth c0 H locs cells slots (vx_MQ below Qc (KX D w ψ A) args s mc ms A) (F0 m pc ls rest) q :=
  vx_out (fun x hx => (htab x hx).elim) hlk hq hv hcl (fun t ht _ => ⟨hψ, by rw [ht]; exact hI.1, hI.2.2.1.F ht⟩) hI.2.2.1.2.2 hc hs
/-- a static method with one of many ends -/
theorem k_callG (n : Nat) (pre post : va_W) (cx : KC p c0 cc s args m own D ca) (hE : KE A s s.heap) (hls : ls.size = c0.maxLocals) (hM : CG l y bytes maxL ret rm D ca w As ov Φ mc ms)
    (hI : KI D A W0 s.heap H locs) (e0 : W0 = pre ++ (w ++ post)) (had : ∀ w', Φ w' → w'.map Prod.fst = w.map Prod.fst)
    (h0 : Cond.code y bytes maxL ret ∈ WL) (h1 : Cond.methodLink own index y ∈ WL) (h2 : Cond.static y ∈ WL) (h4 : Cond.initialized y.cls ∈ WL)
    (hd : y.cls ≠ "java/lang/invoke/MethodHandle" ∧ y.cls ≠ "java/lang/invoke/VarHandle" ∧ (parseMethodDescriptor y.desc).map (fun d => d.parameters.length) = some n) (hn : As.length = n)
    (hrm : rm.cells = mc ∧ rm.slots = ms) (hR : rm.frames + 1 ≤ R.frames ∧ 8 + (maxL + 11) + rm.locals ≤ R.locals) (hW : (rest.map fun v => v.category).sum ≤ 8) (hdg : decode cc pc = .ok (.invokestatic index, 3)) (hf : cells + mc ≤ R.cells ∧ slots + ms ≤ R.slots)
    (hst : st0 = As.reverse ++ rest) (kk : ∀ w', Φ w' → ∀ H1 locs1, KI D A (pre ++ (w' ++ post)) s.heap H1 locs1 → W p l e R s m args below meth c0 H1 locs1 (cells + mc) (slots + ms) Q (F0 m (pc + 3) ls (ov.toList ++ rest))) : W p l e R s m args below meth c0 H locs cells slots Q (F0 m pc ls st0) := by
  subst e0
  obtain ⟨hP, hD, hS, hA⟩ := hI
  have hF := kf_free hD hS hA
  have hr := va_runS (e := e) (below := below) (meth := meth) (locs := locs) (As := As) (rest := rest) ⟨cx.1, cx.2.1, rfl, cx.2.2.1, cx.2.2.2.1⟩ (hM H.size) (va_cwS n cx.2.2.2.1 (wk_S h0 h1 h2 h4) rfl hrm.1 hrm.2 hd hR) (k_preSE cx.2.2.2.2 (kf_at hP) (kf_Dat hD) hE hS hF) (g := F0 m pc ls st0) rfl hn hls hst (lv_room hW) hdg hf
  intro T hT X
  obtain ⟨v, st₀, t, T', L, h0, X', hL, e1, e2, ⟨hv, ⟨w', hΦ, hP1⟩, hz, hk⟩, st⟩ := hr T hT X
  have hv : v = ov := by injection hv
  subst hv
  rw [h0] at hz hk
  have hk1 : ∀ q : Nat, q < H.size → ¬ va_A w H.size q → T'.heap[q]? = H[q]? := fun q h1 h2 => by rw [e1]; exact hk q h1 h2
  have hz1 : H.size ≤ T'.heap.size := by rw [e1]; exact hz
  obtain ⟨t2, a1, b1⟩ := kk w' hΦ T'.heap (locs ++ L) ⟨kf_P hP hD hk1 (by rw [e1]; exact hP1), kf_Dw (had w' hΦ) hD, ⟨Nat.le_trans hS.1 hz1, fun q h1 h2 => by rw [hk1 q (Nat.lt_of_lt_of_le h1 hS.1) (fun z => h2 (hF q z))]; exact hS.2.1 q h1 h2, fun q hq => by
      rcases List.mem_append.mp hq with h | h
      · exact hS.2.2 q h
      · exact hF _ (hL q h)⟩, hA⟩ T' rfl X'
  exact ⟨t2, st t2 a1, b1⟩
end LROWS
section LEND
variable {p : Program} {l : Launch} {e : Env} {R : Room} {s : State} {m : MethodId} {args : Array Value} {below : List Frame} {meth : Method} {c0 : Code} {H : Heap} {locs : List Loc} {cells slots mc ms : Nat}
variable {cc : ByteArray} {pc : Nat} {ls : Array Slot} {D : va_G} {ca : Nat → ClassId} {A : Nat → Prop} {own : String} {w1 : va_W} {Φ : va_W → Prop}
theorem ke_g (w2 post : va_W) {v : Int32} (cx : KC p c0 cc s args m own D ca) (hr : meth.sig.returnType = some .boolean) (hlk : meth.locks = false) (hI : KI D A w1 s.heap H locs) (hc : cells ≤ mc) (hs : slots ≤ ms) (hdg : decode cc pc = .ok (.ireturn, 1)) (hn : narrow .boolean (.int v) = .int v) (ew : w1 = w2 ++ post) (hΦ : Φ w2) :
    W p l e R s m args below meth c0 H locs cells slots (MQ below (fun _ st oc t => oc = .returned (some (.int v)) ∧ (∃ w', Φ w' ∧ va_P D vwCl w' t.heap) ∧ va_F A st t) args s mc ms A) (F0 m pc ls [.int v]) := by
  subst ew
  refine W.widen hc hs ?_
  exact W.zret cx.1 cx.2.1 hr hn (fun t ht hW => ⟨rfl, ⟨w2, hΦ, by rw [ht]; exact kf_at (pre := []) hI.1⟩, hI.2.2.1.F ht⟩) hI.2.2.1.2.2 hdg hlk
end LEND
theorem lw_eq {ad : Nat → Nat} {oa cb : Nat} {ca : Nat → ClassId} {v : XS} {o o' c c' : Nat → Int32} (h1 : o = o') (h2 : c = c') : lw ad oa cb ca v o c [] = lw ad oa cb ca v o' c' [] := by rw [h1, h2]
theorem lw_ad {ad : Nat → Nat} {oa cb : Nat} {ca : Nat → ClassId} {v v' : XS} {o o' c c' : Nat → Int32} : (lw ad oa cb ca v' o' c' []).map Prod.fst = (lw ad oa cb ca v o c []).map Prod.fst := rfl
/-- the ends of the law's step: some state that keeps what holds -/
def LW (n : Nat) (ad : Nat → Nat) (oa cb : Nat) (ca : Nat → ClassId) (w : va_W) : Prop := ∃ v, zI n v ∧ w = lw ad oa cb ca v (lO v) (lC v) []
theorem LW.ad {n : Nat} {ad : Nat → Nat} {oa cb : Nat} {ca : Nat → ClassId} {v : XS} {o c : Nat → Int32} {w : va_W} (h : LW n ad oa cb ca w) : w.map Prod.fst = (lw ad oa cb ca v o c []).map Prod.fst := by
  obtain ⟨v', -, rfl⟩ := h
  rfl
end
section
/-! MINE: the law's rows at keys by number; what its leaves answer. -/
section LR2
variable {p : Program} {l : Launch} {e : Env} {R : Room} {s : State} {m : MethodId} {args : Array Value} {below : List Frame} {meth : Method} {c0 : Code} {H : Heap} {locs : List Loc} {cells slots : Nat} {Q : State → Prop}
variable {cc : ByteArray} {pc : Nat} {ls : Array Slot} {rest : List Value} {D : va_G} {ca : Nat → ClassId} {A : Nat → Prop} {ad : Nat → Nat} {own : String} {oa cb sa : Nat} {v : XS} {o c h : Nat → Int32} {tl : va_W}
theorem lr_on (cx : KC p c0 cc s args m own D ca) (hI : KI D A (lw ad oa cb ca v o c tl) s.heap H locs) {i : Nat} (hi : i < 40) (hdg : decode cc pc = .ok (.iaload, 1)) (k : W p l e R s m args below meth c0 H locs cells slots Q (F0 m (pc + 1) ls (.int (o i) :: rest))) : W p l e R s m args below meth c0 H locs cells slots Q (F0 m pc ls (.int (nI i) :: .ref oa :: rest)) := by
  refine lr_o cx hI (vp_in_nI hi (by decide)) hdg ?_
  rw [kx hi]
  exact k
theorem ls_on (cx : KC p c0 cc s args m own D ca) (hI : KI D A (lw ad oa cb ca v o c tl) s.heap H locs) {i : Nat} {y : Int32} (hi : i < 40) (hdg : decode cc pc = .ok (.iastore, 1)) (k : ∀ (H : Heap) (locs : List Loc), KI D A (lw ad oa cb ca v (upd o i y) c tl) s.heap H locs → W p l e R s m args below meth c0 H locs cells slots Q (F0 m (pc + 1) ls rest)) : W p l e R s m args below meth c0 H locs cells slots Q (F0 m pc ls (.int y :: .int (nI i) :: .ref oa :: rest)) := by
  refine ls_o cx hI (vp_in_nI hi (by decide)) hdg (fun H locs hI => k H locs ?_)
  rw [kx hi] at hI
  exact hI
theorem k6 {j : Nat} (h : j < 6) : (nI j).toNatClampNeg = j := nI_clamp (by omega)
theorem lr_hn (cx : KC p c0 cc s args m own D ca) (hI : KI D A (lw ad oa cb ca v o c (hw sa ca h)) s.heap H locs) {i : Nat} (hi : i < 6) (hdg : decode cc pc = .ok (.iaload, 1)) (k : W p l e R s m args below meth c0 H locs cells slots Q (F0 m (pc + 1) ls (.int (h i) :: rest))) : W p l e R s m args below meth c0 H locs cells slots Q (F0 m pc ls (.int (nI i) :: .ref sa :: rest)) := by
  refine lr_h cx hI (vp_in_nI hi (by decide)) hdg ?_
  rw [k6 hi]
  exact k
theorem ls_hn (cx : KC p c0 cc s args m own D ca) (hI : KI D A (lw ad oa cb ca v o c (hw sa ca h)) s.heap H locs) {i : Nat} {y : Int32} (hi : i < 6) (hdg : decode cc pc = .ok (.iastore, 1)) (k : ∀ (H : Heap) (locs : List Loc), KI D A (lw ad oa cb ca v o c (hw sa ca (upd h i y))) s.heap H locs → W p l e R s m args below meth c0 H locs cells slots Q (F0 m (pc + 1) ls rest)) : W p l e R s m args below meth c0 H locs cells slots Q (F0 m pc ls (.int y :: .int (nI i) :: .ref sa :: rest)) := by
  refine ls_h cx hI (vp_in_nI hi (by decide)) hdg (fun H locs hI => k H locs ?_)
  rw [k6 hi] at hI
  exact hI
theorem lr_c1 (cx : KC p c0 cc s args m own D ca) (hI : KI D A [(cb, .inl (ca 0, 7, .inl c))] s.heap H locs) {i : Int32} (hin : vp_in i 7) (hdg : decode cc pc = .ok (.iaload, 1)) (k : W p l e R s m args below meth c0 H locs cells slots Q (F0 m (pc + 1) ls (.int (c i.toNatClampNeg) :: rest))) : W p l e R s m args below meth c0 H locs cells slots Q (F0 m pc ls (.int i :: .ref cb :: rest)) := va_iald cx.1 cx.2.1 cx.2.2.2.2 hI.1 0 0 rfl rfl hin hdg k
end LR2
theorem even_is {v : XS} {j : Nat} (hj : j < 40) : xBeh v (nI j) = (!decide (xC v 0 j = xBro v (nI j) 0) || (!decide (xC v 1 j = xBro v (nI j) 1) || !decide (xC v 2 j = xBro v (nI j) 2))) := by
  unfold xBeh
  rw [kx hj]
theorem even_t {v : XS} {j : Nat} (hj : j < 40) (h0 : xC v 0 j = xBro v (nI j) 0) (h1 : xC v 1 j = xBro v (nI j) 1) (h2 : xC v 2 j = xBro v (nI j) 2) : (1 : Int32) = b2i (!xBeh v (nI j)) := by
  rw [even_is hj, decide_eq_true h0, decide_eq_true h1, decide_eq_true h2]
  rfl
theorem even_f0 {v : XS} {j : Nat} (hj : j < 40) (h : ¬ xC v 0 j = xBro v (nI j) 0) : (0 : Int32) = b2i (!xBeh v (nI j)) := by
  rw [even_is hj, decide_eq_false h]
  rfl
theorem even_f1 {v : XS} {j : Nat} (hj : j < 40) (h : ¬ xC v 1 j = xBro v (nI j) 1) : (0 : Int32) = b2i (!xBeh v (nI j)) := by
  rw [even_is hj, decide_eq_false h]
  cases decide (xC v 0 j = xBro v (nI j) 0) <;> rfl
theorem even_f2 {v : XS} {j : Nat} (hj : j < 40) (h : ¬ xC v 2 j = xBro v (nI j) 2) : (0 : Int32) = b2i (!xBeh v (nI j)) := by
  rw [even_is hj, decide_eq_false h]
  cases decide (xC v 0 j = xBro v (nI j) 0) <;> cases decide (xC v 1 j = xBro v (nI j) 1) <;> rfl
theorem seen_a {v : XS} {k : Int32} (h : xOld v k = false) : (0 : Int32) = b2i (xSeen v k) := by
  unfold xSeen
  rw [h]
  rfl
theorem seen_b {v : XS} {k : Int32} (h : xOld v k = true) (h2 : ¬ xp v = 2) : (1 : Int32) = b2i (xSeen v k) := by
  unfold xSeen
  rw [h, decide_eq_false h2]
  rfl
theorem seen_c {v : XS} {k : Int32} (h2 : xp v = 2) (h3 : xSh v k = false) : (0 : Int32) = b2i (xSeen v k) := by
  unfold xSeen
  rw [h3, decide_eq_true h2]
  cases xOld v k <;> rfl
theorem seen_d {v : XS} {k : Int32} (h : xOld v k = true) (h3 : xSh v k = true) : (1 : Int32) = b2i (xSeen v k) := by
  unfold xSeen
  rw [h, h3]
  cases decide (xp v = 2) <;> rfl
end
section
/-! MINE: the law's leaves. -/
set_option maxHeartbeats 4000000 in
set_option maxRecDepth 100000 in
theorem kL_altered (l : Launch) (D : va_G) (ca : Nat → ClassId) (cb : Nat) (c : Nat → Int32) (row col : Int32) : CM l yL_altered cL_altered 6 (some .int) (KR 0 0) D ca [(cb, .inl (ca 0, 7, .inl c))] [.ref cb, .int row, .int col] (some (.int (lAlt (c 1) (c 2) row col))) [(cb, .inl (ca 0, 7, .inl c))] := by
  refine CM.of (by decide) (Nat.le_of_ble_eq_true rfl) ?_
  intro p e s m below meth c0 A ls cx hml hr hlk hI hl
  have hl : lv_has ls 6 [(0, .ref cb), (1, .int row), (2, .int col)] := hl
  refine lv_iload_n cx.1 cx.2.1 dL_altered_0 rfl (lv_at hl 1 rfl) ?_
  refine lv_sipush (v := 1000) cx.1 cx.2.1 dL_altered_1 (by decide) ?_
  refine lv_idiv cx.1 cx.2.1 dL_altered_4 (by decide) ?_
  refine lv_istore_n (lv' := [(3, .int (row / 1000)), (0, .ref cb), (1, .int row), (2, .int col)]) cx.1 cx.2.1 dL_altered_5 rfl hl (by decide) rfl (fun ls hl => ?_)
  refine lv_iload_n cx.1 cx.2.1 dL_altered_6 rfl (lv_at hl 2 rfl) ?_
  refine lv_sipush (v := 1000) cx.1 cx.2.1 dL_altered_7 (by decide) ?_
  refine lv_irem cx.1 cx.2.1 dL_altered_10 (by decide) ?_
  refine lv_istore (lv' := [(4, .int (row - row / 1000 * 1000)), (3, .int (row / 1000)), (0, .ref cb), (1, .int row), (2, .int col)]) cx.1 cx.2.1 dL_altered_11 hl (by decide) rfl (fun ls hl => ?_)
  refine lv_iload_n cx.1 cx.2.1 dL_altered_13 rfl (lv_at hl 3 rfl) ?_
  refine lv_if_lt (tgt := 32) cx.1 cx.2.1 dL_altered_14 (by decide) (fun c_1 => ?_) (fun c_1 => ?_)
  · refine lv_iconst (v := (-1)) cx.1 cx.2.1 dL_altered_32 (by decide) ?_
    exact ke_i cx hr hlk hI (Nat.le_of_ble_eq_true rfl) (Nat.le_of_ble_eq_true rfl) dL_altered_33 (congrArg (fun z => some (Value.int z)) (by first | (simp [lAlt, lDig, c_1]; done))) rfl
  · refine lv_aload_n cx.1 cx.2.1 dL_altered_17 rfl (lv_at hl 2 rfl) ?_
    refine lv_iconst (v := 1) cx.1 cx.2.1 dL_altered_18 (by decide) ?_
    refine lr_c1 cx hI (vp_in_nI (n := 1) (by decide) (by decide)) dL_altered_19 ?_
    refine k_top (y := c 1) rfl ?_
    refine lv_iconst (v := 1) cx.1 cx.2.1 dL_altered_20 (by decide) ?_
    refine lv_icmp_ne (tgt := 34) cx.1 cx.2.1 dL_altered_21 (by decide) (fun c_2 => ?_) (fun c_2 => ?_)
    · refine k_join (D := D) (A := A) 57 [(cb, .inl (ca 0, 7, .inl c))] [.int (lDig (row - row / 1000 * 1000))] (fun H locs hI => ?_) (fun hj57 => ?_)
      · refine lv_istore (lv' := [(5, .int (lDig (row - row / 1000 * 1000))), (4, .int (row - row / 1000 * 1000)), (3, .int (row / 1000)), (0, .ref cb), (1, .int row), (2, .int col)]) cx.1 cx.2.1 dL_altered_57 hl (by decide) rfl (fun ls hl => ?_)
        refine lv_iload_n cx.1 cx.2.1 dL_altered_59 rfl (lv_at hl 5 rfl) ?_
        refine lv_if_ne (tgt := 80) cx.1 cx.2.1 dL_altered_60 (by decide) (fun c_3 => ?_) (fun c_3 => ?_)
        · refine lv_iload_n cx.1 cx.2.1 dL_altered_80 rfl (lv_at hl 5 rfl) ?_
          refine lv_iconst (v := 1) cx.1 cx.2.1 dL_altered_81 (by decide) ?_
          refine lv_icmp_ne (tgt := 119) cx.1 cx.2.1 dL_altered_82 (by decide) (fun c_4 => ?_) (fun c_4 => ?_)
          · refine lv_aload_n cx.1 cx.2.1 dL_altered_119 rfl (lv_at hl 3 rfl) ?_
            refine lv_iconst (v := 1) cx.1 cx.2.1 dL_altered_120 (by decide) ?_
            refine lr_c1 cx hI (vp_in_nI (n := 1) (by decide) (by decide)) dL_altered_121 ?_
            refine k_top (y := c 1) rfl ?_
            refine lv_if_ne (tgt := 130) cx.1 cx.2.1 dL_altered_122 (by decide) (fun c_5 => ?_) (fun c_5 => ?_)
            · refine lv_aload_n cx.1 cx.2.1 dL_altered_130 rfl (lv_at hl 3 rfl) ?_
              refine lv_iconst (v := 1) cx.1 cx.2.1 dL_altered_131 (by decide) ?_
              refine lr_c1 cx hI (vp_in_nI (n := 1) (by decide) (by decide)) dL_altered_132 ?_
              refine k_top (y := c 1) rfl ?_
              refine lv_iconst (v := 1) cx.1 cx.2.1 dL_altered_133 (by decide) ?_
              refine lv_icmp_ne (tgt := 141) cx.1 cx.2.1 dL_altered_134 (by decide) (fun c_6 => ?_) (fun c_6 => ?_)
              · refine lv_iload cx.1 cx.2.1 dL_altered_141 (lv_at hl 0 rfl) ?_
                exact ke_i cx hr hlk hI (Nat.le_of_ble_eq_true rfl) (Nat.le_of_ble_eq_true rfl) dL_altered_143 (congrArg (fun z => some (Value.int z)) (by first | (simp [lAlt, lDig, c_1, c_2, c_3, c_4, c_5, c_6]; done) | exact absurd c_3 c_2 | exact absurd c_2 c_3 | (rw [c_2] at c_3; exact absurd c_3 (by decide)) | exact absurd c_4 c_2 | exact absurd c_2 c_4 | (rw [c_2] at c_4; exact absurd c_4 (by decide)) | exact absurd c_5 c_2 | exact absurd c_2 c_5 | (rw [c_2] at c_5; exact absurd c_5 (by decide)) | exact absurd c_6 c_2 | exact absurd c_2 c_6 | (rw [c_2] at c_6; exact absurd c_6 (by decide)))) rfl
              · refine lv_iconst (v := 0) cx.1 cx.2.1 dL_altered_137 (by decide) ?_
                refine lv_goto (tgt := 143) cx.1 cx.2.1 dL_altered_138 (by decide) ?_
                exact ke_i cx hr hlk hI (Nat.le_of_ble_eq_true rfl) (Nat.le_of_ble_eq_true rfl) dL_altered_143 (congrArg (fun z => some (Value.int z)) (by first | (simp [lAlt, lDig, c_1, c_2, c_3, c_4, c_5, c_6]; done) | exact absurd c_3 c_2 | exact absurd c_2 c_3 | (rw [c_2] at c_3; exact absurd c_3 (by decide)) | exact absurd c_4 c_2 | exact absurd c_2 c_4 | (rw [c_2] at c_4; exact absurd c_4 (by decide)) | exact absurd c_5 c_2 | exact absurd c_2 c_5 | (rw [c_2] at c_5; exact absurd c_5 (by decide)) | exact absurd c_6 c_2 | exact absurd c_2 c_6 | (rw [c_2] at c_6; exact absurd c_6 (by decide)))) rfl
            · refine lv_iload cx.1 cx.2.1 dL_altered_125 (lv_at hl 1 rfl) ?_
              refine lv_goto (tgt := 143) cx.1 cx.2.1 dL_altered_127 (by decide) ?_
              exact ke_i cx hr hlk hI (Nat.le_of_ble_eq_true rfl) (Nat.le_of_ble_eq_true rfl) dL_altered_143 (congrArg (fun z => some (Value.int z)) (by first | (simp [lAlt, lDig, c_1, c_2, c_3, c_4, c_5]; done) | exact absurd c_3 c_2 | exact absurd c_2 c_3 | (rw [c_2] at c_3; exact absurd c_3 (by decide)) | exact absurd c_4 c_2 | exact absurd c_2 c_4 | (rw [c_2] at c_4; exact absurd c_4 (by decide)) | exact absurd c_5 c_2 | exact absurd c_2 c_5 | (rw [c_2] at c_5; exact absurd c_5 (by decide)))) rfl
          · refine lv_aload_n cx.1 cx.2.1 dL_altered_85 rfl (lv_at hl 3 rfl) ?_
            refine lv_iconst (v := 1) cx.1 cx.2.1 dL_altered_86 (by decide) ?_
            refine lr_c1 cx hI (vp_in_nI (n := 1) (by decide) (by decide)) dL_altered_87 ?_
            refine k_top (y := c 1) rfl ?_
            refine lv_if_ne (tgt := 98) cx.1 cx.2.1 dL_altered_88 (by decide) (fun c_7 => ?_) (fun c_7 => ?_)
            · refine lv_aload_n cx.1 cx.2.1 dL_altered_98 rfl (lv_at hl 3 rfl) ?_
              refine lv_iconst (v := 1) cx.1 cx.2.1 dL_altered_99 (by decide) ?_
              refine lr_c1 cx hI (vp_in_nI (n := 1) (by decide) (by decide)) dL_altered_100 ?_
              refine k_top (y := c 1) rfl ?_
              refine lv_iconst (v := 1) cx.1 cx.2.1 dL_altered_101 (by decide) ?_
              refine lv_icmp_ne (tgt := 110) cx.1 cx.2.1 dL_altered_102 (by decide) (fun c_8 => ?_) (fun c_8 => ?_)
              · refine lv_iload cx.1 cx.2.1 dL_altered_110 (lv_at hl 1 rfl) ?_
                refine lv_aload_n cx.1 cx.2.1 dL_altered_112 rfl (lv_at hl 3 rfl) ?_
                refine lv_iconst (v := 2) cx.1 cx.2.1 dL_altered_113 (by decide) ?_
                refine lr_c1 cx hI (vp_in_nI (n := 2) (by decide) (by decide)) dL_altered_114 ?_
                refine k_top (y := c 2) rfl ?_
                refine lv_imul cx.1 cx.2.1 dL_altered_115 ?_
                refine lv_goto (tgt := 143) cx.1 cx.2.1 dL_altered_116 (by decide) ?_
                exact ke_i cx hr hlk hI (Nat.le_of_ble_eq_true rfl) (Nat.le_of_ble_eq_true rfl) dL_altered_143 (congrArg (fun z => some (Value.int z)) (by first | (simp [lAlt, lDig, c_1, c_2, c_3, c_4, c_7, c_8]; done) | exact absurd c_3 c_2 | exact absurd c_2 c_3 | (rw [c_2] at c_3; exact absurd c_3 (by decide)) | exact absurd c_4 c_2 | exact absurd c_2 c_4 | (rw [c_2] at c_4; exact absurd c_4 (by decide)) | exact absurd c_7 c_2 | exact absurd c_2 c_7 | (rw [c_2] at c_7; exact absurd c_7 (by decide)) | exact absurd c_8 c_2 | exact absurd c_2 c_8 | (rw [c_2] at c_8; exact absurd c_8 (by decide)))) rfl
              · refine lv_iload cx.1 cx.2.1 dL_altered_105 (lv_at hl 1 rfl) ?_
                refine lv_goto (tgt := 143) cx.1 cx.2.1 dL_altered_107 (by decide) ?_
                exact ke_i cx hr hlk hI (Nat.le_of_ble_eq_true rfl) (Nat.le_of_ble_eq_true rfl) dL_altered_143 (congrArg (fun z => some (Value.int z)) (by first | (simp [lAlt, lDig, c_1, c_2, c_3, c_4, c_7, c_8]; done) | exact absurd c_3 c_2 | exact absurd c_2 c_3 | (rw [c_2] at c_3; exact absurd c_3 (by decide)) | exact absurd c_4 c_2 | exact absurd c_2 c_4 | (rw [c_2] at c_4; exact absurd c_4 (by decide)) | exact absurd c_7 c_2 | exact absurd c_2 c_7 | (rw [c_2] at c_7; exact absurd c_7 (by decide)) | exact absurd c_8 c_2 | exact absurd c_2 c_8 | (rw [c_2] at c_8; exact absurd c_8 (by decide)))) rfl
            · refine lv_iload_n cx.1 cx.2.1 dL_altered_91 rfl (lv_at hl 2 rfl) ?_
              refine lv_bipush (v := 100) cx.1 cx.2.1 dL_altered_92 (by decide) ?_
              refine lv_irem cx.1 cx.2.1 dL_altered_94 (by decide) ?_
              refine lv_goto (tgt := 143) cx.1 cx.2.1 dL_altered_95 (by decide) ?_
              exact ke_i cx hr hlk hI (Nat.le_of_ble_eq_true rfl) (Nat.le_of_ble_eq_true rfl) dL_altered_143 (congrArg (fun z => some (Value.int z)) (by first | (simp [lAlt, lDig, c_1, c_2, c_3, c_4, c_7]; done) | exact absurd c_3 c_2 | exact absurd c_2 c_3 | (rw [c_2] at c_3; exact absurd c_3 (by decide)) | exact absurd c_4 c_2 | exact absurd c_2 c_4 | (rw [c_2] at c_4; exact absurd c_4 (by decide)) | exact absurd c_7 c_2 | exact absurd c_2 c_7 | (rw [c_2] at c_7; exact absurd c_7 (by decide)))) rfl
        · refine lv_aload_n cx.1 cx.2.1 dL_altered_63 rfl (lv_at hl 3 rfl) ?_
          refine lv_iconst (v := 1) cx.1 cx.2.1 dL_altered_64 (by decide) ?_
          refine lr_c1 cx hI (vp_in_nI (n := 1) (by decide) (by decide)) dL_altered_65 ?_
          refine k_top (y := c 1) rfl ?_
          refine lv_if_ne (tgt := 76) cx.1 cx.2.1 dL_altered_66 (by decide) (fun c_9 => ?_) (fun c_9 => ?_)
          · refine lv_iload_n cx.1 cx.2.1 dL_altered_76 rfl (lv_at hl 2 rfl) ?_
            refine lv_goto (tgt := 143) cx.1 cx.2.1 dL_altered_77 (by decide) ?_
            exact ke_i cx hr hlk hI (Nat.le_of_ble_eq_true rfl) (Nat.le_of_ble_eq_true rfl) dL_altered_143 (congrArg (fun z => some (Value.int z)) (by first | (simp [lAlt, lDig, c_1, c_2, c_3, c_9]; done) | exact absurd c_3 c_2 | exact absurd c_2 c_3 | (rw [c_2] at c_3; exact absurd c_3 (by decide)) | exact absurd c_9 c_2 | exact absurd c_2 c_9 | (rw [c_2] at c_9; exact absurd c_9 (by decide)))) rfl
          · refine lv_iload_n cx.1 cx.2.1 dL_altered_69 rfl (lv_at hl 2 rfl) ?_
            refine lv_bipush (v := 100) cx.1 cx.2.1 dL_altered_70 (by decide) ?_
            refine lv_idiv cx.1 cx.2.1 dL_altered_72 (by decide) ?_
            refine lv_goto (tgt := 143) cx.1 cx.2.1 dL_altered_73 (by decide) ?_
            exact ke_i cx hr hlk hI (Nat.le_of_ble_eq_true rfl) (Nat.le_of_ble_eq_true rfl) dL_altered_143 (congrArg (fun z => some (Value.int z)) (by first | (simp [lAlt, lDig, c_1, c_2, c_3, c_9]; done) | exact absurd c_3 c_2 | exact absurd c_2 c_3 | (rw [c_2] at c_3; exact absurd c_3 (by decide)) | exact absurd c_9 c_2 | exact absurd c_2 c_9 | (rw [c_2] at c_9; exact absurd c_9 (by decide)))) rfl
      ·
        refine lv_iload cx.1 cx.2.1 dL_altered_34 (lv_at hl 0 rfl) ?_
        refine lv_bipush (v := 99) cx.1 cx.2.1 dL_altered_36 (by decide) ?_
        refine lv_icmp_le (tgt := 45) cx.1 cx.2.1 dL_altered_38 (by decide) (fun c_10 => ?_) (fun c_10 => ?_)
        · refine lv_iload cx.1 cx.2.1 dL_altered_45 (lv_at hl 0 rfl) ?_
          refine lv_bipush (v := 9) cx.1 cx.2.1 dL_altered_47 (by decide) ?_
          refine lv_icmp_le (tgt := 56) cx.1 cx.2.1 dL_altered_49 (by decide) (fun c_11 => ?_) (fun c_11 => ?_)
          · refine lv_iconst (v := 1) cx.1 cx.2.1 dL_altered_56 (by decide) ?_
            exact k_top (by simp [lAlt, lDig, c_1, c_2, c_10, c_11]) (hj57 _ _ hI)
          · refine lv_iconst (v := 2) cx.1 cx.2.1 dL_altered_52 (by decide) ?_
            refine lv_goto (tgt := 57) cx.1 cx.2.1 dL_altered_53 (by decide) ?_
            exact k_top (by simp [lAlt, lDig, c_1, c_2, c_10, c_11]) (hj57 _ _ hI)
        · refine lv_iconst (v := 3) cx.1 cx.2.1 dL_altered_41 (by decide) ?_
          refine lv_goto (tgt := 57) cx.1 cx.2.1 dL_altered_42 (by decide) ?_
          exact k_top (by simp [lAlt, lDig, c_1, c_2, c_10]) (hj57 _ _ hI)
    · refine lv_iload cx.1 cx.2.1 dL_altered_24 (lv_at hl 0 rfl) ?_
      refine lv_aload_n cx.1 cx.2.1 dL_altered_26 rfl (lv_at hl 2 rfl) ?_
      refine lv_iconst (v := 2) cx.1 cx.2.1 dL_altered_27 (by decide) ?_
      refine lr_c1 cx hI (vp_in_nI (n := 2) (by decide) (by decide)) dL_altered_28 ?_
      refine k_top (y := c 2) rfl ?_
      refine lv_icmp_le (tgt := 34) cx.1 cx.2.1 dL_altered_29 (by decide) (fun c_12 => ?_) (fun c_12 => ?_)
      · refine k_join (D := D) (A := A) 57 [(cb, .inl (ca 0, 7, .inl c))] [.int (lDig (row - row / 1000 * 1000))] (fun H locs hI => ?_) (fun hj57 => ?_)
        · refine lv_istore (lv' := [(5, .int (lDig (row - row / 1000 * 1000))), (4, .int (row - row / 1000 * 1000)), (3, .int (row / 1000)), (0, .ref cb), (1, .int row), (2, .int col)]) cx.1 cx.2.1 dL_altered_57 hl (by decide) rfl (fun ls hl => ?_)
          refine lv_iload_n cx.1 cx.2.1 dL_altered_59 rfl (lv_at hl 5 rfl) ?_
          refine lv_if_ne (tgt := 80) cx.1 cx.2.1 dL_altered_60 (by decide) (fun c_13 => ?_) (fun c_13 => ?_)
          · refine lv_iload_n cx.1 cx.2.1 dL_altered_80 rfl (lv_at hl 5 rfl) ?_
            refine lv_iconst (v := 1) cx.1 cx.2.1 dL_altered_81 (by decide) ?_
            refine lv_icmp_ne (tgt := 119) cx.1 cx.2.1 dL_altered_82 (by decide) (fun c_14 => ?_) (fun c_14 => ?_)
            · refine lv_aload_n cx.1 cx.2.1 dL_altered_119 rfl (lv_at hl 3 rfl) ?_
              refine lv_iconst (v := 1) cx.1 cx.2.1 dL_altered_120 (by decide) ?_
              refine lr_c1 cx hI (vp_in_nI (n := 1) (by decide) (by decide)) dL_altered_121 ?_
              refine k_top (y := c 1) rfl ?_
              refine lv_if_ne (tgt := 130) cx.1 cx.2.1 dL_altered_122 (by decide) (fun c_15 => ?_) (fun c_15 => ?_)
              · refine lv_aload_n cx.1 cx.2.1 dL_altered_130 rfl (lv_at hl 3 rfl) ?_
                refine lv_iconst (v := 1) cx.1 cx.2.1 dL_altered_131 (by decide) ?_
                refine lr_c1 cx hI (vp_in_nI (n := 1) (by decide) (by decide)) dL_altered_132 ?_
                refine k_top (y := c 1) rfl ?_
                refine lv_iconst (v := 1) cx.1 cx.2.1 dL_altered_133 (by decide) ?_
                refine lv_icmp_ne (tgt := 141) cx.1 cx.2.1 dL_altered_134 (by decide) (fun c_16 => ?_) (fun c_16 => ?_)
                · refine lv_iload cx.1 cx.2.1 dL_altered_141 (lv_at hl 0 rfl) ?_
                  exact ke_i cx hr hlk hI (Nat.le_of_ble_eq_true rfl) (Nat.le_of_ble_eq_true rfl) dL_altered_143 (congrArg (fun z => some (Value.int z)) (by first | (simp [lAlt, lDig, c_1, c_2, c_12, c_13, c_14, c_15, c_16]; done) | exact absurd c_12 c_2 | exact absurd c_2 c_12 | (rw [c_2] at c_12; exact absurd c_12 (by decide)) | exact absurd c_13 c_2 | exact absurd c_2 c_13 | (rw [c_2] at c_13; exact absurd c_13 (by decide)) | exact absurd c_14 c_2 | exact absurd c_2 c_14 | (rw [c_2] at c_14; exact absurd c_14 (by decide)) | exact absurd c_15 c_2 | exact absurd c_2 c_15 | (rw [c_2] at c_15; exact absurd c_15 (by decide)) | exact absurd c_16 c_2 | exact absurd c_2 c_16 | (rw [c_2] at c_16; exact absurd c_16 (by decide)))) rfl
                · refine lv_iconst (v := 0) cx.1 cx.2.1 dL_altered_137 (by decide) ?_
                  refine lv_goto (tgt := 143) cx.1 cx.2.1 dL_altered_138 (by decide) ?_
                  exact ke_i cx hr hlk hI (Nat.le_of_ble_eq_true rfl) (Nat.le_of_ble_eq_true rfl) dL_altered_143 (congrArg (fun z => some (Value.int z)) (by first | (simp [lAlt, lDig, c_1, c_2, c_12, c_13, c_14, c_15, c_16]; done) | exact absurd c_12 c_2 | exact absurd c_2 c_12 | (rw [c_2] at c_12; exact absurd c_12 (by decide)) | exact absurd c_13 c_2 | exact absurd c_2 c_13 | (rw [c_2] at c_13; exact absurd c_13 (by decide)) | exact absurd c_14 c_2 | exact absurd c_2 c_14 | (rw [c_2] at c_14; exact absurd c_14 (by decide)) | exact absurd c_15 c_2 | exact absurd c_2 c_15 | (rw [c_2] at c_15; exact absurd c_15 (by decide)) | exact absurd c_16 c_2 | exact absurd c_2 c_16 | (rw [c_2] at c_16; exact absurd c_16 (by decide)))) rfl
              · refine lv_iload cx.1 cx.2.1 dL_altered_125 (lv_at hl 1 rfl) ?_
                refine lv_goto (tgt := 143) cx.1 cx.2.1 dL_altered_127 (by decide) ?_
                exact ke_i cx hr hlk hI (Nat.le_of_ble_eq_true rfl) (Nat.le_of_ble_eq_true rfl) dL_altered_143 (congrArg (fun z => some (Value.int z)) (by first | (simp [lAlt, lDig, c_1, c_2, c_12, c_13, c_14, c_15]; done) | exact absurd c_12 c_2 | exact absurd c_2 c_12 | (rw [c_2] at c_12; exact absurd c_12 (by decide)) | exact absurd c_13 c_2 | exact absurd c_2 c_13 | (rw [c_2] at c_13; exact absurd c_13 (by decide)) | exact absurd c_14 c_2 | exact absurd c_2 c_14 | (rw [c_2] at c_14; exact absurd c_14 (by decide)) | exact absurd c_15 c_2 | exact absurd c_2 c_15 | (rw [c_2] at c_15; exact absurd c_15 (by decide)))) rfl
            · refine lv_aload_n cx.1 cx.2.1 dL_altered_85 rfl (lv_at hl 3 rfl) ?_
              refine lv_iconst (v := 1) cx.1 cx.2.1 dL_altered_86 (by decide) ?_
              refine lr_c1 cx hI (vp_in_nI (n := 1) (by decide) (by decide)) dL_altered_87 ?_
              refine k_top (y := c 1) rfl ?_
              refine lv_if_ne (tgt := 98) cx.1 cx.2.1 dL_altered_88 (by decide) (fun c_17 => ?_) (fun c_17 => ?_)
              · refine lv_aload_n cx.1 cx.2.1 dL_altered_98 rfl (lv_at hl 3 rfl) ?_
                refine lv_iconst (v := 1) cx.1 cx.2.1 dL_altered_99 (by decide) ?_
                refine lr_c1 cx hI (vp_in_nI (n := 1) (by decide) (by decide)) dL_altered_100 ?_
                refine k_top (y := c 1) rfl ?_
                refine lv_iconst (v := 1) cx.1 cx.2.1 dL_altered_101 (by decide) ?_
                refine lv_icmp_ne (tgt := 110) cx.1 cx.2.1 dL_altered_102 (by decide) (fun c_18 => ?_) (fun c_18 => ?_)
                · refine lv_iload cx.1 cx.2.1 dL_altered_110 (lv_at hl 1 rfl) ?_
                  refine lv_aload_n cx.1 cx.2.1 dL_altered_112 rfl (lv_at hl 3 rfl) ?_
                  refine lv_iconst (v := 2) cx.1 cx.2.1 dL_altered_113 (by decide) ?_
                  refine lr_c1 cx hI (vp_in_nI (n := 2) (by decide) (by decide)) dL_altered_114 ?_
                  refine k_top (y := c 2) rfl ?_
                  refine lv_imul cx.1 cx.2.1 dL_altered_115 ?_
                  refine lv_goto (tgt := 143) cx.1 cx.2.1 dL_altered_116 (by decide) ?_
                  exact ke_i cx hr hlk hI (Nat.le_of_ble_eq_true rfl) (Nat.le_of_ble_eq_true rfl) dL_altered_143 (congrArg (fun z => some (Value.int z)) (by first | (simp [lAlt, lDig, c_1, c_2, c_12, c_13, c_14, c_17, c_18]; done) | exact absurd c_12 c_2 | exact absurd c_2 c_12 | (rw [c_2] at c_12; exact absurd c_12 (by decide)) | exact absurd c_13 c_2 | exact absurd c_2 c_13 | (rw [c_2] at c_13; exact absurd c_13 (by decide)) | exact absurd c_14 c_2 | exact absurd c_2 c_14 | (rw [c_2] at c_14; exact absurd c_14 (by decide)) | exact absurd c_17 c_2 | exact absurd c_2 c_17 | (rw [c_2] at c_17; exact absurd c_17 (by decide)) | exact absurd c_18 c_2 | exact absurd c_2 c_18 | (rw [c_2] at c_18; exact absurd c_18 (by decide)))) rfl
                · refine lv_iload cx.1 cx.2.1 dL_altered_105 (lv_at hl 1 rfl) ?_
                  refine lv_goto (tgt := 143) cx.1 cx.2.1 dL_altered_107 (by decide) ?_
                  exact ke_i cx hr hlk hI (Nat.le_of_ble_eq_true rfl) (Nat.le_of_ble_eq_true rfl) dL_altered_143 (congrArg (fun z => some (Value.int z)) (by first | (simp [lAlt, lDig, c_1, c_2, c_12, c_13, c_14, c_17, c_18]; done) | exact absurd c_12 c_2 | exact absurd c_2 c_12 | (rw [c_2] at c_12; exact absurd c_12 (by decide)) | exact absurd c_13 c_2 | exact absurd c_2 c_13 | (rw [c_2] at c_13; exact absurd c_13 (by decide)) | exact absurd c_14 c_2 | exact absurd c_2 c_14 | (rw [c_2] at c_14; exact absurd c_14 (by decide)) | exact absurd c_17 c_2 | exact absurd c_2 c_17 | (rw [c_2] at c_17; exact absurd c_17 (by decide)) | exact absurd c_18 c_2 | exact absurd c_2 c_18 | (rw [c_2] at c_18; exact absurd c_18 (by decide)))) rfl
              · refine lv_iload_n cx.1 cx.2.1 dL_altered_91 rfl (lv_at hl 2 rfl) ?_
                refine lv_bipush (v := 100) cx.1 cx.2.1 dL_altered_92 (by decide) ?_
                refine lv_irem cx.1 cx.2.1 dL_altered_94 (by decide) ?_
                refine lv_goto (tgt := 143) cx.1 cx.2.1 dL_altered_95 (by decide) ?_
                exact ke_i cx hr hlk hI (Nat.le_of_ble_eq_true rfl) (Nat.le_of_ble_eq_true rfl) dL_altered_143 (congrArg (fun z => some (Value.int z)) (by first | (simp [lAlt, lDig, c_1, c_2, c_12, c_13, c_14, c_17]; done) | exact absurd c_12 c_2 | exact absurd c_2 c_12 | (rw [c_2] at c_12; exact absurd c_12 (by decide)) | exact absurd c_13 c_2 | exact absurd c_2 c_13 | (rw [c_2] at c_13; exact absurd c_13 (by decide)) | exact absurd c_14 c_2 | exact absurd c_2 c_14 | (rw [c_2] at c_14; exact absurd c_14 (by decide)) | exact absurd c_17 c_2 | exact absurd c_2 c_17 | (rw [c_2] at c_17; exact absurd c_17 (by decide)))) rfl
          · refine lv_aload_n cx.1 cx.2.1 dL_altered_63 rfl (lv_at hl 3 rfl) ?_
            refine lv_iconst (v := 1) cx.1 cx.2.1 dL_altered_64 (by decide) ?_
            refine lr_c1 cx hI (vp_in_nI (n := 1) (by decide) (by decide)) dL_altered_65 ?_
            refine k_top (y := c 1) rfl ?_
            refine lv_if_ne (tgt := 76) cx.1 cx.2.1 dL_altered_66 (by decide) (fun c_19 => ?_) (fun c_19 => ?_)
            · refine lv_iload_n cx.1 cx.2.1 dL_altered_76 rfl (lv_at hl 2 rfl) ?_
              refine lv_goto (tgt := 143) cx.1 cx.2.1 dL_altered_77 (by decide) ?_
              exact ke_i cx hr hlk hI (Nat.le_of_ble_eq_true rfl) (Nat.le_of_ble_eq_true rfl) dL_altered_143 (congrArg (fun z => some (Value.int z)) (by first | (simp [lAlt, lDig, c_1, c_2, c_12, c_13, c_19]; done) | exact absurd c_12 c_2 | exact absurd c_2 c_12 | (rw [c_2] at c_12; exact absurd c_12 (by decide)) | exact absurd c_13 c_2 | exact absurd c_2 c_13 | (rw [c_2] at c_13; exact absurd c_13 (by decide)) | exact absurd c_19 c_2 | exact absurd c_2 c_19 | (rw [c_2] at c_19; exact absurd c_19 (by decide)))) rfl
            · refine lv_iload_n cx.1 cx.2.1 dL_altered_69 rfl (lv_at hl 2 rfl) ?_
              refine lv_bipush (v := 100) cx.1 cx.2.1 dL_altered_70 (by decide) ?_
              refine lv_idiv cx.1 cx.2.1 dL_altered_72 (by decide) ?_
              refine lv_goto (tgt := 143) cx.1 cx.2.1 dL_altered_73 (by decide) ?_
              exact ke_i cx hr hlk hI (Nat.le_of_ble_eq_true rfl) (Nat.le_of_ble_eq_true rfl) dL_altered_143 (congrArg (fun z => some (Value.int z)) (by first | (simp [lAlt, lDig, c_1, c_2, c_12, c_13, c_19]; done) | exact absurd c_12 c_2 | exact absurd c_2 c_12 | (rw [c_2] at c_12; exact absurd c_12 (by decide)) | exact absurd c_13 c_2 | exact absurd c_2 c_13 | (rw [c_2] at c_13; exact absurd c_13 (by decide)) | exact absurd c_19 c_2 | exact absurd c_2 c_19 | (rw [c_2] at c_19; exact absurd c_19 (by decide)))) rfl
        ·
          refine lv_iload cx.1 cx.2.1 dL_altered_34 (lv_at hl 0 rfl) ?_
          refine lv_bipush (v := 99) cx.1 cx.2.1 dL_altered_36 (by decide) ?_
          refine lv_icmp_le (tgt := 45) cx.1 cx.2.1 dL_altered_38 (by decide) (fun c_20 => ?_) (fun c_20 => ?_)
          · refine lv_iload cx.1 cx.2.1 dL_altered_45 (lv_at hl 0 rfl) ?_
            refine lv_bipush (v := 9) cx.1 cx.2.1 dL_altered_47 (by decide) ?_
            refine lv_icmp_le (tgt := 56) cx.1 cx.2.1 dL_altered_49 (by decide) (fun c_21 => ?_) (fun c_21 => ?_)
            · refine lv_iconst (v := 1) cx.1 cx.2.1 dL_altered_56 (by decide) ?_
              exact k_top (by simp [lAlt, lDig, c_1, c_2, c_12, c_20, c_21]) (hj57 _ _ hI)
            · refine lv_iconst (v := 2) cx.1 cx.2.1 dL_altered_52 (by decide) ?_
              refine lv_goto (tgt := 57) cx.1 cx.2.1 dL_altered_53 (by decide) ?_
              exact k_top (by simp [lAlt, lDig, c_1, c_2, c_12, c_20, c_21]) (hj57 _ _ hI)
          · refine lv_iconst (v := 3) cx.1 cx.2.1 dL_altered_41 (by decide) ?_
            refine lv_goto (tgt := 57) cx.1 cx.2.1 dL_altered_42 (by decide) ?_
            exact k_top (by simp [lAlt, lDig, c_1, c_2, c_12, c_20]) (hj57 _ _ hI)
      · refine lv_iconst (v := (-1)) cx.1 cx.2.1 dL_altered_32 (by decide) ?_
        exact ke_i cx hr hlk hI (Nat.le_of_ble_eq_true rfl) (Nat.le_of_ble_eq_true rfl) dL_altered_33 (congrArg (fun z => some (Value.int z)) (by first | (simp [lAlt, lDig, c_1, c_2, c_12]; done) | exact absurd c_12 c_2 | exact absurd c_2 c_12 | (rw [c_2] at c_12; exact absurd c_12 (by decide)))) rfl
set_option maxHeartbeats 4000000 in
set_option maxRecDepth 100000 in
theorem kL_isEven (l : Launch) (D : va_G) (ca : Nat → ClassId) (ad : Nat → Nat) (oa cb : Nat) (v : XS) (o : Nat → Int32) (a0 t q a3 a4 a5 a6 : Int32) {j : Nat} (hj : j < 40) (hA : zA v j) (ho : o j = lO v j) (ht : t = xt v) (hq : q = xq v) : CM l yL_isEven cL_isEven 6 (some .boolean) (KR 3 64) D ca (lw ad oa cb ca v o (lK a0 t q a3 a4 a5 a6) []) [.ref (ad 0), .ref oa, .ref cb, .int (nI j)] (some (.int (b2i (!xBeh v (nI j))))) (lw ad oa cb ca v o (lK a0 t q a3 a4 a5 a6) []) := by
  refine CM.of (by decide) (Nat.le_of_ble_eq_true rfl) ?_
  intro p e s m below meth c0 A ls cx hml hr hlk hI hl
  have hl : lv_has ls 6 [(0, .ref (ad 0)), (1, .ref oa), (2, .ref cb), (3, .int (nI j))] := hl
  refine lv_iconst (v := 1) cx.1 cx.2.1 dL_isEven_0 (by decide) ?_
  refine lv_istore (lv' := [(4, .int 1), (0, .ref (ad 0)), (1, .ref oa), (2, .ref cb), (3, .int (nI j))]) cx.1 cx.2.1 dL_isEven_1 hl (by decide) rfl (fun ls hl => ?_)
  refine lv_iconst (v := 0) cx.1 cx.2.1 dL_isEven_3 (by decide) ?_
  refine lv_istore (lv' := [(5, .int 0), (4, .int 1), (0, .ref (ad 0)), (1, .ref oa), (2, .ref cb), (3, .int (nI j))]) cx.1 cx.2.1 dL_isEven_4 hl (by decide) rfl (fun ls hl => ?_)
  refine lv_iload cx.1 cx.2.1 dL_isEven_6 (lv_at hl 0 rfl) ?_
  refine lv_iconst (v := 3) cx.1 cx.2.1 dL_isEven_8 (by decide) ?_
  refine lv_icmp_ge (tgt := 49) cx.1 cx.2.1 dL_isEven_9 (by decide) (fun h9 => absurd h9 (by decide)) (fun _ => ?_)
  refine lv_iload cx.1 cx.2.1 dL_isEven_12 (lv_at hl 1 rfl) ?_
  refine lv_if_eq (tgt := 40) cx.1 cx.2.1 dL_isEven_14 (by decide) (fun h9 => absurd h9 (by decide)) (fun _ => ?_)
  refine lv_aload_n cx.1 cx.2.1 dL_isEven_17 rfl (lv_at hl 2 rfl) ?_
  refine lv_iload_n cx.1 cx.2.1 dL_isEven_18 rfl (lv_at hl 5 rfl) ?_
  refine lv_iload cx.1 cx.2.1 dL_isEven_19 (lv_at hl 0 rfl) ?_
  refine lc_i 2 cx (hl.1.trans hml.symm) (kS_shadow l D ca ad v (nI j) 0 (vp_in_nI hj (by decide)) (vp_in_nI (n := 0) (by decide) (by decide))) hI wk_86 wk_83 wk_84 wk_85 ⟨rfl, by decide +kernel⟩ rfl ⟨rfl, rfl⟩ ⟨Nat.le_of_ble_eq_true rfl, Nat.le_of_ble_eq_true rfl⟩ (Nat.le_of_ble_eq_true rfl) dL_isEven_21 ⟨Nat.le_of_ble_eq_true rfl, Nat.le_of_ble_eq_true rfl⟩ rfl (fun H locs hI => ?_)
  refine k_top (y := xC v 0 j) (congrArg (xC v 0) (kx hj)) ?_
  refine lv_aload_n cx.1 cx.2.1 dL_isEven_24 rfl (lv_at hl 4 rfl) ?_
  refine lv_aload_n cx.1 cx.2.1 dL_isEven_25 rfl (lv_at hl 3 rfl) ?_
  refine lv_iload_n cx.1 cx.2.1 dL_isEven_26 rfl (lv_at hl 5 rfl) ?_
  refine lr_on cx hI hj dL_isEven_27 ?_
  refine lv_iload cx.1 cx.2.1 dL_isEven_28 (lv_at hl 0 rfl) ?_
  refine lc_c 3 cx (hl.1.trans hml.symm) (kL_altered l D ca cb (lK a0 t q a3 a4 a5 a6) (o j) 0) hI wk_167 wk_165 wk_166 wk_0 ⟨by decide, by decide, by decide +kernel⟩ rfl ⟨rfl, rfl⟩ ⟨Nat.le_of_ble_eq_true rfl, Nat.le_of_ble_eq_true rfl⟩ (Nat.le_of_ble_eq_true rfl) dL_isEven_30 ⟨Nat.le_of_ble_eq_true rfl, Nat.le_of_ble_eq_true rfl⟩ rfl (fun H locs hI => ?_)
  refine k_top (y := xBro v (nI j) 0) (by rw [ho, ht, hq]; exact lAlt_bro hj hA 0) ?_
  refine lv_icmp_ne (tgt := 40) cx.1 cx.2.1 dL_isEven_33 (by decide) (fun c_1 => ?_) (fun c_1 => ?_)
  · refine lv_iconst (v := 0) cx.1 cx.2.1 dL_isEven_40 (by decide) ?_
    refine lv_istore (lv' := [(4, .int 0), (5, .int 0), (0, .ref (ad 0)), (1, .ref oa), (2, .ref cb), (3, .int (nI j))]) cx.1 cx.2.1 dL_isEven_41 hl (by decide) rfl (fun ls hl => ?_)
    refine lv_iinc (v := 1) (lv' := [(5, .int 1), (4, .int 0), (0, .ref (ad 0)), (1, .ref oa), (2, .ref cb), (3, .int (nI j))]) cx.1 cx.2.1 dL_isEven_43 hl (k := 1) rfl (by decide) (by decide) rfl (fun ls hl => ?_)
    refine lv_goto (tgt := 6) cx.1 cx.2.1 dL_isEven_46 (by decide) ?_
    refine lv_iload cx.1 cx.2.1 dL_isEven_6 (lv_at hl 0 rfl) ?_
    refine lv_iconst (v := 3) cx.1 cx.2.1 dL_isEven_8 (by decide) ?_
    refine lv_icmp_ge (tgt := 49) cx.1 cx.2.1 dL_isEven_9 (by decide) (fun h9 => absurd h9 (by decide)) (fun _ => ?_)
    refine lv_iload cx.1 cx.2.1 dL_isEven_12 (lv_at hl 1 rfl) ?_
    refine lv_if_eq (tgt := 40) cx.1 cx.2.1 dL_isEven_14 (by decide) (fun _ => ?_) (fun h9 => absurd (by decide) h9)
    refine lv_iconst (v := 0) cx.1 cx.2.1 dL_isEven_40 (by decide) ?_
    refine lv_istore (lv' := [(4, .int 0), (5, .int 1), (0, .ref (ad 0)), (1, .ref oa), (2, .ref cb), (3, .int (nI j))]) cx.1 cx.2.1 dL_isEven_41 hl (by decide) rfl (fun ls hl => ?_)
    refine lv_iinc (v := 2) (lv' := [(5, .int 2), (4, .int 0), (0, .ref (ad 0)), (1, .ref oa), (2, .ref cb), (3, .int (nI j))]) cx.1 cx.2.1 dL_isEven_43 hl (k := 1) rfl (by decide) (by decide) rfl (fun ls hl => ?_)
    refine lv_goto (tgt := 6) cx.1 cx.2.1 dL_isEven_46 (by decide) ?_
    refine lv_iload cx.1 cx.2.1 dL_isEven_6 (lv_at hl 0 rfl) ?_
    refine lv_iconst (v := 3) cx.1 cx.2.1 dL_isEven_8 (by decide) ?_
    refine lv_icmp_ge (tgt := 49) cx.1 cx.2.1 dL_isEven_9 (by decide) (fun h9 => absurd h9 (by decide)) (fun _ => ?_)
    refine lv_iload cx.1 cx.2.1 dL_isEven_12 (lv_at hl 1 rfl) ?_
    refine lv_if_eq (tgt := 40) cx.1 cx.2.1 dL_isEven_14 (by decide) (fun _ => ?_) (fun h9 => absurd (by decide) h9)
    refine lv_iconst (v := 0) cx.1 cx.2.1 dL_isEven_40 (by decide) ?_
    refine lv_istore (lv' := [(4, .int 0), (5, .int 2), (0, .ref (ad 0)), (1, .ref oa), (2, .ref cb), (3, .int (nI j))]) cx.1 cx.2.1 dL_isEven_41 hl (by decide) rfl (fun ls hl => ?_)
    refine lv_iinc (v := 3) (lv' := [(5, .int 3), (4, .int 0), (0, .ref (ad 0)), (1, .ref oa), (2, .ref cb), (3, .int (nI j))]) cx.1 cx.2.1 dL_isEven_43 hl (k := 1) rfl (by decide) (by decide) rfl (fun ls hl => ?_)
    refine lv_goto (tgt := 6) cx.1 cx.2.1 dL_isEven_46 (by decide) ?_
    refine lv_iload cx.1 cx.2.1 dL_isEven_6 (lv_at hl 0 rfl) ?_
    refine lv_iconst (v := 3) cx.1 cx.2.1 dL_isEven_8 (by decide) ?_
    refine lv_icmp_ge (tgt := 49) cx.1 cx.2.1 dL_isEven_9 (by decide) (fun _ => ?_) (fun h9 => absurd (by decide) h9)
    refine lv_iload cx.1 cx.2.1 dL_isEven_49 (lv_at hl 1 rfl) ?_
    exact ke_z cx hr hlk hI (Nat.le_of_ble_eq_true rfl) (Nat.le_of_ble_eq_true rfl) dL_isEven_51 rfl (congrArg (fun z => some (Value.int z)) (even_f0 hj c_1)) rfl
  · refine lv_iconst (v := 1) cx.1 cx.2.1 dL_isEven_36 (by decide) ?_
    refine lv_goto (tgt := 41) cx.1 cx.2.1 dL_isEven_37 (by decide) ?_
    refine lv_istore (lv' := [(4, .int 1), (5, .int 0), (0, .ref (ad 0)), (1, .ref oa), (2, .ref cb), (3, .int (nI j))]) cx.1 cx.2.1 dL_isEven_41 hl (by decide) rfl (fun ls hl => ?_)
    refine lv_iinc (v := 1) (lv' := [(5, .int 1), (4, .int 1), (0, .ref (ad 0)), (1, .ref oa), (2, .ref cb), (3, .int (nI j))]) cx.1 cx.2.1 dL_isEven_43 hl (k := 1) rfl (by decide) (by decide) rfl (fun ls hl => ?_)
    refine lv_goto (tgt := 6) cx.1 cx.2.1 dL_isEven_46 (by decide) ?_
    refine lv_iload cx.1 cx.2.1 dL_isEven_6 (lv_at hl 0 rfl) ?_
    refine lv_iconst (v := 3) cx.1 cx.2.1 dL_isEven_8 (by decide) ?_
    refine lv_icmp_ge (tgt := 49) cx.1 cx.2.1 dL_isEven_9 (by decide) (fun h9 => absurd h9 (by decide)) (fun _ => ?_)
    refine lv_iload cx.1 cx.2.1 dL_isEven_12 (lv_at hl 1 rfl) ?_
    refine lv_if_eq (tgt := 40) cx.1 cx.2.1 dL_isEven_14 (by decide) (fun h9 => absurd h9 (by decide)) (fun _ => ?_)
    refine lv_aload_n cx.1 cx.2.1 dL_isEven_17 rfl (lv_at hl 2 rfl) ?_
    refine lv_iload_n cx.1 cx.2.1 dL_isEven_18 rfl (lv_at hl 5 rfl) ?_
    refine lv_iload cx.1 cx.2.1 dL_isEven_19 (lv_at hl 0 rfl) ?_
    refine lc_i 2 cx (hl.1.trans hml.symm) (kS_shadow l D ca ad v (nI j) 1 (vp_in_nI hj (by decide)) (vp_in_nI (n := 1) (by decide) (by decide))) hI wk_86 wk_83 wk_84 wk_85 ⟨rfl, by decide +kernel⟩ rfl ⟨rfl, rfl⟩ ⟨Nat.le_of_ble_eq_true rfl, Nat.le_of_ble_eq_true rfl⟩ (Nat.le_of_ble_eq_true rfl) dL_isEven_21 ⟨Nat.le_of_ble_eq_true rfl, Nat.le_of_ble_eq_true rfl⟩ rfl (fun H locs hI => ?_)
    refine k_top (y := xC v 1 j) (congrArg (xC v 1) (kx hj)) ?_
    refine lv_aload_n cx.1 cx.2.1 dL_isEven_24 rfl (lv_at hl 4 rfl) ?_
    refine lv_aload_n cx.1 cx.2.1 dL_isEven_25 rfl (lv_at hl 3 rfl) ?_
    refine lv_iload_n cx.1 cx.2.1 dL_isEven_26 rfl (lv_at hl 5 rfl) ?_
    refine lr_on cx hI hj dL_isEven_27 ?_
    refine lv_iload cx.1 cx.2.1 dL_isEven_28 (lv_at hl 0 rfl) ?_
    refine lc_c 3 cx (hl.1.trans hml.symm) (kL_altered l D ca cb (lK a0 t q a3 a4 a5 a6) (o j) 1) hI wk_167 wk_165 wk_166 wk_0 ⟨by decide, by decide, by decide +kernel⟩ rfl ⟨rfl, rfl⟩ ⟨Nat.le_of_ble_eq_true rfl, Nat.le_of_ble_eq_true rfl⟩ (Nat.le_of_ble_eq_true rfl) dL_isEven_30 ⟨Nat.le_of_ble_eq_true rfl, Nat.le_of_ble_eq_true rfl⟩ rfl (fun H locs hI => ?_)
    refine k_top (y := xBro v (nI j) 1) (by rw [ho, ht, hq]; exact lAlt_bro hj hA 1) ?_
    refine lv_icmp_ne (tgt := 40) cx.1 cx.2.1 dL_isEven_33 (by decide) (fun c_2 => ?_) (fun c_2 => ?_)
    · refine lv_iconst (v := 0) cx.1 cx.2.1 dL_isEven_40 (by decide) ?_
      refine lv_istore (lv' := [(4, .int 0), (5, .int 1), (0, .ref (ad 0)), (1, .ref oa), (2, .ref cb), (3, .int (nI j))]) cx.1 cx.2.1 dL_isEven_41 hl (by decide) rfl (fun ls hl => ?_)
      refine lv_iinc (v := 2) (lv' := [(5, .int 2), (4, .int 0), (0, .ref (ad 0)), (1, .ref oa), (2, .ref cb), (3, .int (nI j))]) cx.1 cx.2.1 dL_isEven_43 hl (k := 1) rfl (by decide) (by decide) rfl (fun ls hl => ?_)
      refine lv_goto (tgt := 6) cx.1 cx.2.1 dL_isEven_46 (by decide) ?_
      refine lv_iload cx.1 cx.2.1 dL_isEven_6 (lv_at hl 0 rfl) ?_
      refine lv_iconst (v := 3) cx.1 cx.2.1 dL_isEven_8 (by decide) ?_
      refine lv_icmp_ge (tgt := 49) cx.1 cx.2.1 dL_isEven_9 (by decide) (fun h9 => absurd h9 (by decide)) (fun _ => ?_)
      refine lv_iload cx.1 cx.2.1 dL_isEven_12 (lv_at hl 1 rfl) ?_
      refine lv_if_eq (tgt := 40) cx.1 cx.2.1 dL_isEven_14 (by decide) (fun _ => ?_) (fun h9 => absurd (by decide) h9)
      refine lv_iconst (v := 0) cx.1 cx.2.1 dL_isEven_40 (by decide) ?_
      refine lv_istore (lv' := [(4, .int 0), (5, .int 2), (0, .ref (ad 0)), (1, .ref oa), (2, .ref cb), (3, .int (nI j))]) cx.1 cx.2.1 dL_isEven_41 hl (by decide) rfl (fun ls hl => ?_)
      refine lv_iinc (v := 3) (lv' := [(5, .int 3), (4, .int 0), (0, .ref (ad 0)), (1, .ref oa), (2, .ref cb), (3, .int (nI j))]) cx.1 cx.2.1 dL_isEven_43 hl (k := 1) rfl (by decide) (by decide) rfl (fun ls hl => ?_)
      refine lv_goto (tgt := 6) cx.1 cx.2.1 dL_isEven_46 (by decide) ?_
      refine lv_iload cx.1 cx.2.1 dL_isEven_6 (lv_at hl 0 rfl) ?_
      refine lv_iconst (v := 3) cx.1 cx.2.1 dL_isEven_8 (by decide) ?_
      refine lv_icmp_ge (tgt := 49) cx.1 cx.2.1 dL_isEven_9 (by decide) (fun _ => ?_) (fun h9 => absurd (by decide) h9)
      refine lv_iload cx.1 cx.2.1 dL_isEven_49 (lv_at hl 1 rfl) ?_
      exact ke_z cx hr hlk hI (Nat.le_of_ble_eq_true rfl) (Nat.le_of_ble_eq_true rfl) dL_isEven_51 rfl (congrArg (fun z => some (Value.int z)) (even_f1 hj c_2)) rfl
    · refine lv_iconst (v := 1) cx.1 cx.2.1 dL_isEven_36 (by decide) ?_
      refine lv_goto (tgt := 41) cx.1 cx.2.1 dL_isEven_37 (by decide) ?_
      refine lv_istore (lv' := [(4, .int 1), (5, .int 1), (0, .ref (ad 0)), (1, .ref oa), (2, .ref cb), (3, .int (nI j))]) cx.1 cx.2.1 dL_isEven_41 hl (by decide) rfl (fun ls hl => ?_)
      refine lv_iinc (v := 2) (lv' := [(5, .int 2), (4, .int 1), (0, .ref (ad 0)), (1, .ref oa), (2, .ref cb), (3, .int (nI j))]) cx.1 cx.2.1 dL_isEven_43 hl (k := 1) rfl (by decide) (by decide) rfl (fun ls hl => ?_)
      refine lv_goto (tgt := 6) cx.1 cx.2.1 dL_isEven_46 (by decide) ?_
      refine lv_iload cx.1 cx.2.1 dL_isEven_6 (lv_at hl 0 rfl) ?_
      refine lv_iconst (v := 3) cx.1 cx.2.1 dL_isEven_8 (by decide) ?_
      refine lv_icmp_ge (tgt := 49) cx.1 cx.2.1 dL_isEven_9 (by decide) (fun h9 => absurd h9 (by decide)) (fun _ => ?_)
      refine lv_iload cx.1 cx.2.1 dL_isEven_12 (lv_at hl 1 rfl) ?_
      refine lv_if_eq (tgt := 40) cx.1 cx.2.1 dL_isEven_14 (by decide) (fun h9 => absurd h9 (by decide)) (fun _ => ?_)
      refine lv_aload_n cx.1 cx.2.1 dL_isEven_17 rfl (lv_at hl 2 rfl) ?_
      refine lv_iload_n cx.1 cx.2.1 dL_isEven_18 rfl (lv_at hl 5 rfl) ?_
      refine lv_iload cx.1 cx.2.1 dL_isEven_19 (lv_at hl 0 rfl) ?_
      refine lc_i 2 cx (hl.1.trans hml.symm) (kS_shadow l D ca ad v (nI j) 2 (vp_in_nI hj (by decide)) (vp_in_nI (n := 2) (by decide) (by decide))) hI wk_86 wk_83 wk_84 wk_85 ⟨rfl, by decide +kernel⟩ rfl ⟨rfl, rfl⟩ ⟨Nat.le_of_ble_eq_true rfl, Nat.le_of_ble_eq_true rfl⟩ (Nat.le_of_ble_eq_true rfl) dL_isEven_21 ⟨Nat.le_of_ble_eq_true rfl, Nat.le_of_ble_eq_true rfl⟩ rfl (fun H locs hI => ?_)
      refine k_top (y := xC v 2 j) (congrArg (xC v 2) (kx hj)) ?_
      refine lv_aload_n cx.1 cx.2.1 dL_isEven_24 rfl (lv_at hl 4 rfl) ?_
      refine lv_aload_n cx.1 cx.2.1 dL_isEven_25 rfl (lv_at hl 3 rfl) ?_
      refine lv_iload_n cx.1 cx.2.1 dL_isEven_26 rfl (lv_at hl 5 rfl) ?_
      refine lr_on cx hI hj dL_isEven_27 ?_
      refine lv_iload cx.1 cx.2.1 dL_isEven_28 (lv_at hl 0 rfl) ?_
      refine lc_c 3 cx (hl.1.trans hml.symm) (kL_altered l D ca cb (lK a0 t q a3 a4 a5 a6) (o j) 2) hI wk_167 wk_165 wk_166 wk_0 ⟨by decide, by decide, by decide +kernel⟩ rfl ⟨rfl, rfl⟩ ⟨Nat.le_of_ble_eq_true rfl, Nat.le_of_ble_eq_true rfl⟩ (Nat.le_of_ble_eq_true rfl) dL_isEven_30 ⟨Nat.le_of_ble_eq_true rfl, Nat.le_of_ble_eq_true rfl⟩ rfl (fun H locs hI => ?_)
      refine k_top (y := xBro v (nI j) 2) (by rw [ho, ht, hq]; exact lAlt_bro hj hA 2) ?_
      refine lv_icmp_ne (tgt := 40) cx.1 cx.2.1 dL_isEven_33 (by decide) (fun c_3 => ?_) (fun c_3 => ?_)
      · refine lv_iconst (v := 0) cx.1 cx.2.1 dL_isEven_40 (by decide) ?_
        refine lv_istore (lv' := [(4, .int 0), (5, .int 2), (0, .ref (ad 0)), (1, .ref oa), (2, .ref cb), (3, .int (nI j))]) cx.1 cx.2.1 dL_isEven_41 hl (by decide) rfl (fun ls hl => ?_)
        refine lv_iinc (v := 3) (lv' := [(5, .int 3), (4, .int 0), (0, .ref (ad 0)), (1, .ref oa), (2, .ref cb), (3, .int (nI j))]) cx.1 cx.2.1 dL_isEven_43 hl (k := 1) rfl (by decide) (by decide) rfl (fun ls hl => ?_)
        refine lv_goto (tgt := 6) cx.1 cx.2.1 dL_isEven_46 (by decide) ?_
        refine lv_iload cx.1 cx.2.1 dL_isEven_6 (lv_at hl 0 rfl) ?_
        refine lv_iconst (v := 3) cx.1 cx.2.1 dL_isEven_8 (by decide) ?_
        refine lv_icmp_ge (tgt := 49) cx.1 cx.2.1 dL_isEven_9 (by decide) (fun _ => ?_) (fun h9 => absurd (by decide) h9)
        refine lv_iload cx.1 cx.2.1 dL_isEven_49 (lv_at hl 1 rfl) ?_
        exact ke_z cx hr hlk hI (Nat.le_of_ble_eq_true rfl) (Nat.le_of_ble_eq_true rfl) dL_isEven_51 rfl (congrArg (fun z => some (Value.int z)) (even_f2 hj c_3)) rfl
      · refine lv_iconst (v := 1) cx.1 cx.2.1 dL_isEven_36 (by decide) ?_
        refine lv_goto (tgt := 41) cx.1 cx.2.1 dL_isEven_37 (by decide) ?_
        refine lv_istore (lv' := [(4, .int 1), (5, .int 2), (0, .ref (ad 0)), (1, .ref oa), (2, .ref cb), (3, .int (nI j))]) cx.1 cx.2.1 dL_isEven_41 hl (by decide) rfl (fun ls hl => ?_)
        refine lv_iinc (v := 3) (lv' := [(5, .int 3), (4, .int 1), (0, .ref (ad 0)), (1, .ref oa), (2, .ref cb), (3, .int (nI j))]) cx.1 cx.2.1 dL_isEven_43 hl (k := 1) rfl (by decide) (by decide) rfl (fun ls hl => ?_)
        refine lv_goto (tgt := 6) cx.1 cx.2.1 dL_isEven_46 (by decide) ?_
        refine lv_iload cx.1 cx.2.1 dL_isEven_6 (lv_at hl 0 rfl) ?_
        refine lv_iconst (v := 3) cx.1 cx.2.1 dL_isEven_8 (by decide) ?_
        refine lv_icmp_ge (tgt := 49) cx.1 cx.2.1 dL_isEven_9 (by decide) (fun _ => ?_) (fun h9 => absurd (by decide) h9)
        refine lv_iload cx.1 cx.2.1 dL_isEven_49 (lv_at hl 1 rfl) ?_
        exact ke_z cx hr hlk hI (Nat.le_of_ble_eq_true rfl) (Nat.le_of_ble_eq_true rfl) dL_isEven_51 rfl (congrArg (fun z => some (Value.int z)) (even_t hj c_1 c_2 c_3)) rfl
set_option maxHeartbeats 4000000 in
set_option maxRecDepth 100000 in
theorem kL_isSeen (l : Launch) (D : va_G) (ca : Nat → ClassId) (ad : Nat → Nat) (oa cb : Nat) (v : XS) (o : Nat → Int32) (a0 t q a3 a4 a5 a6 : Int32) {j : Nat} (hj : j < 40) (hA : zA v j) (hZ : zS v j) (ho : o j = lO v j) (h0 : a0 = xp v) : CM l yL_isSeen cL_isSeen 4 (some .boolean) (KR 3 64) D ca (lw ad oa cb ca v o (lK a0 t q a3 a4 a5 a6) []) [.ref (ad 0), .ref oa, .ref cb, .int (nI j)] (some (.int (b2i (xSeen v (nI j))))) (lw ad oa cb ca v o (lK a0 t q a3 a4 a5 a6) []) := by
  refine CM.of (by decide) (Nat.le_of_ble_eq_true rfl) ?_
  intro p e s m below meth c0 A ls cx hml hr hlk hI hl
  have hl : lv_has ls 4 [(0, .ref (ad 0)), (1, .ref oa), (2, .ref cb), (3, .int (nI j))] := hl
  refine lv_aload_n cx.1 cx.2.1 dL_isSeen_0 rfl (lv_at hl 1 rfl) ?_
  refine lv_iload_n cx.1 cx.2.1 dL_isSeen_1 rfl (lv_at hl 3 rfl) ?_
  refine lr_on cx hI hj dL_isSeen_2 ?_
  refine lv_if_lt (tgt := 26) cx.1 cx.2.1 dL_isSeen_3 (by decide) (fun c_1 => ?_) (fun c_1 => ?_)
  · refine lv_iconst (v := 0) cx.1 cx.2.1 dL_isSeen_26 (by decide) ?_
    exact ke_z cx hr hlk hI (Nat.le_of_ble_eq_true rfl) (Nat.le_of_ble_eq_true rfl) dL_isSeen_27 rfl (congrArg (fun z => some (Value.int z)) (seen_a (lO_lt hj hA (by rw [← ho]; exact c_1)))) rfl
  · refine lv_aload_n cx.1 cx.2.1 dL_isSeen_6 rfl (lv_at hl 2 rfl) ?_
    refine lv_iconst (v := 0) cx.1 cx.2.1 dL_isSeen_7 (by decide) ?_
    refine lr_c cx hI (vp_in_nI (n := 0) (by decide) (by decide)) dL_isSeen_8 ?_
    refine k_top (y := a0) rfl ?_
    refine lv_iconst (v := 2) cx.1 cx.2.1 dL_isSeen_9 (by decide) ?_
    refine lv_icmp_ne (tgt := 22) cx.1 cx.2.1 dL_isSeen_10 (by decide) (fun c_2 => ?_) (fun c_2 => ?_)
    · refine lv_iconst (v := 1) cx.1 cx.2.1 dL_isSeen_22 (by decide) ?_
      refine lv_goto (tgt := 27) cx.1 cx.2.1 dL_isSeen_23 (by decide) ?_
      exact ke_z cx hr hlk hI (Nat.le_of_ble_eq_true rfl) (Nat.le_of_ble_eq_true rfl) dL_isSeen_27 rfl (congrArg (fun z => some (Value.int z)) (seen_b (lO_ge hj hA (by rw [← ho]; exact c_1)) (by rw [← h0]; exact c_2))) rfl
    · refine lv_aload_n cx.1 cx.2.1 dL_isSeen_13 rfl (lv_at hl 0 rfl) ?_
      refine lv_iload_n cx.1 cx.2.1 dL_isSeen_14 rfl (lv_at hl 3 rfl) ?_
      refine lv_iconst (v := 0) cx.1 cx.2.1 dL_isSeen_15 (by decide) ?_
      refine lc_i 2 cx (hl.1.trans hml.symm) (kS_shadow l D ca ad v (nI j) 0 (vp_in_nI hj (by decide)) (vp_in_nI (n := 0) (by decide) (by decide))) hI wk_86 wk_83 wk_84 wk_85 ⟨rfl, by decide +kernel⟩ rfl ⟨rfl, rfl⟩ ⟨Nat.le_of_ble_eq_true rfl, Nat.le_of_ble_eq_true rfl⟩ (Nat.le_of_ble_eq_true rfl) dL_isSeen_16 ⟨Nat.le_of_ble_eq_true rfl, Nat.le_of_ble_eq_true rfl⟩ rfl (fun H locs hI => ?_)
      refine k_top (y := xC v 0 j) (congrArg (xC v 0) (kx hj)) ?_
      refine lv_if_lt (tgt := 26) cx.1 cx.2.1 dL_isSeen_19 (by decide) (fun c_3 => ?_) (fun c_3 => ?_)
      · refine lv_iconst (v := 0) cx.1 cx.2.1 dL_isSeen_26 (by decide) ?_
        exact ke_z cx hr hlk hI (Nat.le_of_ble_eq_true rfl) (Nat.le_of_ble_eq_true rfl) dL_isSeen_27 rfl (congrArg (fun z => some (Value.int z)) (seen_c (h0 ▸ c_2) (l_sh_lt hj hZ (by decide) c_3))) rfl
      · refine lv_iconst (v := 1) cx.1 cx.2.1 dL_isSeen_22 (by decide) ?_
        refine lv_goto (tgt := 27) cx.1 cx.2.1 dL_isSeen_23 (by decide) ?_
        exact ke_z cx hr hlk hI (Nat.le_of_ble_eq_true rfl) (Nat.le_of_ble_eq_true rfl) dL_isSeen_27 rfl (congrArg (fun z => some (Value.int z)) (seen_d (lO_ge hj hA (by rw [← ho]; exact c_1)) (l_sh_ge hj hZ (by decide) c_3))) rfl
end
section
/-! MINE: what isTold finds. -/
theorem beh_1 {v : XS} {b : Bool} (h : xp v = 0) : (0 : Int32) = b2i (!decide (xp v = 0) && b) := by
  rw [decide_eq_true h]
  rfl
theorem beh_2 {v : XS} {b : Bool} (h : (!b) = true) : (0 : Int32) = b2i (!decide (xp v = 0) && b) := by
  cases b
  · cases decide (xp v = 0) <;> rfl
  · exact absurd h (by decide)
theorem beh_3 {v : XS} {b : Bool} (h0 : ¬ xp v = 0) (h : (!b) = false) : (1 : Int32) = b2i (!decide (xp v = 0) && b) := by
  rw [decide_eq_false h0]
  cases b
  · exact absurd h (by decide)
  · rfl
theorem su_f {v : XS} {k i : Nat} (h : xSh v (nI i) = false) : (0 : Int32) = zSu v k i := by
  unfold zSu
  rw [h]
  rfl
theorem su_t {v : XS} {k i : Nat} (h : xSh v (nI i) = true) : xC v k i = zSu v k i := by
  unfold zSu
  rw [h, if_pos rfl]
theorem du_0 {v : XS} {c : Int32} {i : Nat} (h : xp v = 0) : (0 : Int32) = zDu v c i := by
  unfold zDu
  rw [if_pos h]
theorem du_n {v : XS} {c : Int32} {i : Nat} (hq : zQ v) (hi : i < 40) (hA : zA v i) (h0 : ¬ xp v = 0) (h : ¬ 0 ≤ xBro v (nI i) c) : (0 : Int32) = zDu v c i := by
  unfold zDu
  rw [if_neg h0, if_pos]
  rcases l_bro_ge hq hi hA c with e | ⟨n, hn, e⟩
  · exact e
  · rw [e] at h
    exact absurd (nI_pos' hn) h
theorem du_p {v : XS} {c : Int32} {i : Nat} (h0 : ¬ xp v = 0) (h : 0 ≤ xBro v (nI i) c) : xBro v (nI i) c = zDu v c i := by
  unfold zDu
  rw [if_neg h0, if_neg]
  intro e
  rw [e] at h
  exact absurd h (by decide)
theorem hz_of {v : XS} (h : zV v) : ∀ j : Nat, narrow .boolean (.int (xR v j)) = .int (xR v j) := fun j => by
  rcases h.2.2.2 j with e | e <;> rw [e] <;> rfl
theorem seen_old {v : XS} {k : Int32} (h : xSeen v k = true) : xOld v k = true := by
  unfold xSeen at h
  exact (Bool.and_eq_true_iff.mp h).1
theorem told_idle {n c m : Nat} {v : XS} (h : zX zE n c m v) {i : Nat} (hi : i < 40) (hp : ¬ 0 < xp v) : xSh v (nI i) = false ∧ xR v i = 0 := by
  rcases h.2.2.2 with ⟨-, -, q⟩ | ⟨q, -⟩ | ⟨q, -⟩
  · obtain ⟨q0, -, -, q3⟩ := q i hi
    refine ⟨?_, q3⟩
    unfold xSh
    rw [kx hi]
    show (!decide (xC0 v i = -1)) = false
    rw [q0]
    rfl
  · rw [q] at hp
    exact absurd (by decide) hp
  · rw [q] at hp
    exact absurd (by decide) hp
theorem told_cut {n c m : Nat} {v : XS} (h : zX zE n c m v) {i : Nat} (hi : i < 40) (hp : xp v = 2) : xBeh v (nI i) = false ∧ xR v i = b2i (xOld v (nI i) && !xSh v (nI i)) := by
  rcases h.2.2.2 with ⟨q, -⟩ | ⟨q, -⟩ | ⟨-, -, -, q⟩
  · rw [q] at hp
    exact absurd hp (by decide)
  · rw [q] at hp
    exact absurd hp (by decide)
  · have hB := (q i hi).elim False.elim id
    refine ⟨zB_beh hi hB, ?_⟩
    rw [zB_sh h.1.2.1 hi (h.1.1 i hi).1 hB]
    exact zB_ref hi hB
theorem ref_a {v : XS} {k : Int32} (h : xOld v k = false) : (0 : Int32) = b2i (xOld v k && !xSh v k) := by
  rw [h]
  rfl
theorem ref_b {v : XS} {k : Int32} (h : xSh v k = true) : (0 : Int32) = b2i (xOld v k && !xSh v k) := by
  rw [h]
  cases xOld v k <;> rfl
theorem ref_c {v : XS} {k : Int32} (h : xOld v k = true) (h2 : xSh v k = false) : (1 : Int32) = b2i (xOld v k && !xSh v k) := by
  rw [h, h2]
  rfl
theorem n3k (k : Nat) : (3 : Int32) + nI k = nI (k + 3) := by
  rw [show (3 : Int32) = nI 3 from rfl, nI_add, Nat.add_comm]
end
section
/-! MINE: isTold. -/
set_option maxHeartbeats 4000000 in
set_option maxRecDepth 100000 in
theorem kL_isTold (l : Launch) (D : va_G) (ca : Nat → ClassId) (ad : Nat → Nat) (oa cb : Nat) {v : XS} {n : Nat} (h : zI n v) : CG l yL_isTold cL_isTold 13 (some .boolean) { frames := 6, cells := 1, slots := 6, locals := 130 } D ca (lw ad oa cb ca v (lO v) (lC v) []) [.ref (ad 0), .ref oa, .ref cb] (some (.int 1)) (fun w => w = lw ad oa cb ca v (lO v) (lC v) []) 1 6 := by
  refine CG.of (by decide) (Nat.le_of_ble_eq_true rfl) ?_
  intro p e s m below meth c0 A ls cx hml hr hlk hE hI hl
  have hl : lv_has ls 13 [(0, .ref (ad 0)), (1, .ref oa), (2, .ref cb)] := hl
  obtain ⟨c1, m1, hX⟩ := h
  have hA : ∀ j, j < 40 → zA v j := fun j hj => (hX.1.1 j hj).1
  have hZ : ∀ j, j < 40 → zS v j := fun j hj => (hX.1.1 j hj).2
  have hI : KI D A (lw ad oa cb ca v (lO v) (lK (xp v) (xt v) (xq v) (xk v) (xl v) (xm v) (xc v)) []) s.heap s.heap [] := hI
  refine lv_iconst (v := 0) cx.1 cx.2.1 dL_isTold_0 (by decide) ?_
  refine lv_istore_n (lv' := [(3, .int 0), (0, .ref (ad 0)), (1, .ref oa), (2, .ref cb)]) cx.1 cx.2.1 dL_isTold_1 rfl hl (by decide) rfl (fun ls hl => ?_)
  refine lv_iconst (v := 0) cx.1 cx.2.1 dL_isTold_2 (by decide) ?_
  refine lv_istore (lv' := [(4, .int 0), (3, .int 0), (0, .ref (ad 0)), (1, .ref oa), (2, .ref cb)]) cx.1 cx.2.1 dL_isTold_3 hl (by decide) rfl (fun ls hl => ?_)
  refine lv_iconst (v := 0) cx.1 cx.2.1 dL_isTold_5 (by decide) ?_
  refine lv_istore (lv' := [(5, .int 0), (4, .int 0), (3, .int 0), (0, .ref (ad 0)), (1, .ref oa), (2, .ref cb)]) cx.1 cx.2.1 dL_isTold_6 hl (by decide) rfl (fun ls hl => ?_)
  refine lv_bipush (v := 6) cx.1 cx.2.1 dL_isTold_8 (by decide) ?_
  refine k_newI 6 cx hI (by decide) (by decide) (by decide) ⟨Nat.le_of_ble_eq_true rfl, Nat.le_of_ble_eq_true rfl⟩ dL_isTold_10 (fun sa H hI => ?_)
  have hI : KI D A (lw ad oa cb ca v (lO v) (lK (xp v) (xt v) (xq v) (xk v) (xl v) (xm v) (xc v)) (hw sa ca (hS v 0 0))) s.heap H [] := by rw [hS_0]; exact hI
  refine lv_astore (lv' := [(6, .ref sa), (5, .int 0), (4, .int 0), (3, .int 0), (0, .ref (ad 0)), (1, .ref oa), (2, .ref cb)]) cx.1 cx.2.1 dL_isTold_12 hl (by decide) rfl (fun ls hl => ?_)
  refine lv_aload_n cx.1 cx.2.1 dL_isTold_14 rfl (lv_at hl 4 rfl) ?_
  refine lc_i 0 cx (hl.1.trans hml.symm) (kX0_phase l D ca ad v) hI wk_415 wk_412 wk_413 wk_414 ⟨rfl, by decide +kernel⟩ rfl ⟨rfl, rfl⟩ ⟨Nat.le_of_ble_eq_true rfl, Nat.le_of_ble_eq_true rfl⟩ (Nat.le_of_ble_eq_true rfl) dL_isTold_15 ⟨Nat.le_of_ble_eq_true rfl, Nat.le_of_ble_eq_true rfl⟩ rfl (fun H locs hI => ?_)
  refine lv_aload_n cx.1 cx.2.1 dL_isTold_18 rfl (lv_at hl 6 rfl) ?_
  refine lv_iconst (v := 0) cx.1 cx.2.1 dL_isTold_19 (by decide) ?_
  refine lr_c cx hI (vp_in_nI (n := 0) (by decide) (by decide)) dL_isTold_20 ?_
  refine k_top (y := xp v) rfl ?_
  refine lv_icmp_ne (tgt := 59) cx.1 cx.2.1 dL_isTold_21 (by decide) (fun h9 => absurd h9 (fun q => q rfl)) (fun _ => ?_)
  refine lv_aload_n cx.1 cx.2.1 dL_isTold_24 rfl (lv_at hl 4 rfl) ?_
  refine lc_i 0 cx (hl.1.trans hml.symm) (kX0_mark l D ca ad v) hI wk_419 wk_416 wk_417 wk_418 ⟨rfl, by decide +kernel⟩ rfl ⟨rfl, rfl⟩ ⟨Nat.le_of_ble_eq_true rfl, Nat.le_of_ble_eq_true rfl⟩ (Nat.le_of_ble_eq_true rfl) dL_isTold_25 ⟨Nat.le_of_ble_eq_true rfl, Nat.le_of_ble_eq_true rfl⟩ rfl (fun H locs hI => ?_)
  refine lv_aload_n cx.1 cx.2.1 dL_isTold_28 rfl (lv_at hl 6 rfl) ?_
  refine lv_iconst (v := 0) cx.1 cx.2.1 dL_isTold_29 (by decide) ?_
  refine lr_c cx hI (vp_in_nI (n := 0) (by decide) (by decide)) dL_isTold_30 ?_
  refine k_top (y := xp v) rfl ?_
  refine k_join (D := D) (A := A) 41 (lw ad oa cb ca v (lO v) (lK (xp v) (xt v) (xq v) (xk v) (xl v) (xm v) (xc v)) (hw sa ca (hS v 0 0))) [.int (if xp v = 0 then -1 else xm v), .int (if xp v = 0 then -1 else xm v)] (fun H locs hI => ?_) (fun hj41 => ?_)
  · refine lv_icmp_ne (tgt := 59) cx.1 cx.2.1 dL_isTold_41 (by decide) (fun h9 => absurd h9 (fun q => q rfl)) (fun _ => ?_)
    refine lv_aload_n cx.1 cx.2.1 dL_isTold_44 rfl (lv_at hl 4 rfl) ?_
    refine lc_i 0 cx (hl.1.trans hml.symm) (kX0_notes l D ca ad v) hI wk_423 wk_420 wk_421 wk_422 ⟨rfl, by decide +kernel⟩ rfl ⟨rfl, rfl⟩ ⟨Nat.le_of_ble_eq_true rfl, Nat.le_of_ble_eq_true rfl⟩ (Nat.le_of_ble_eq_true rfl) dL_isTold_45 ⟨Nat.le_of_ble_eq_true rfl, Nat.le_of_ble_eq_true rfl⟩ rfl (fun H locs hI => ?_)
    refine lv_aload_n cx.1 cx.2.1 dL_isTold_48 rfl (lv_at hl 6 rfl) ?_
    refine lv_bipush (v := 6) cx.1 cx.2.1 dL_isTold_49 (by decide) ?_
    refine lr_c cx hI (vp_in_nI (n := 6) (by decide) (by decide)) dL_isTold_51 ?_
    refine k_top (y := xc v) rfl ?_
    refine lv_icmp_ne (tgt := 59) cx.1 cx.2.1 dL_isTold_52 (by decide) (fun h9 => absurd h9 (fun q => q rfl)) (fun _ => ?_)
    refine lv_iconst (v := 1) cx.1 cx.2.1 dL_isTold_55 (by decide) ?_
    refine lv_goto (tgt := 60) cx.1 cx.2.1 dL_isTold_56 (by decide) ?_
    refine lv_istore (lv' := [(7, .int 1), (6, .ref sa), (5, .int 0), (4, .int 0), (3, .int 0), (0, .ref (ad 0)), (1, .ref oa), (2, .ref cb)]) cx.1 cx.2.1 dL_isTold_60 hl (by decide) rfl (fun ls hl => ?_)
    refine lv_iconst (v := 0) cx.1 cx.2.1 dL_isTold_62 (by decide) ?_
    refine lv_istore (lv' := [(8, .int 0), (7, .int 1), (6, .ref sa), (5, .int 0), (4, .int 0), (3, .int 0), (0, .ref (ad 0)), (1, .ref oa), (2, .ref cb)]) cx.1 cx.2.1 dL_isTold_63 hl (by decide) rfl (fun ls hl => ?_)
    refine k_loop 40 (fun i => (lw ad oa cb ca v (lO v) (lK (xp v) (xt v) (xq v) (xk v) (xl v) (xm v) (xc v)) (hw sa ca (hS v i 0)))) (fun i => [(8, .int (nI i)), (3, .int (xRows v i)), (4, .int (xShRows v i)), (5, .int (zBe v i)), (6, .ref sa), (7, .int 1), (0, .ref (ad 0)), (1, .ref oa), (2, .ref cb)]) hI (lv_sub hl [0, 5, 4, 3, 2, 1, 6, 7, 8] rfl) (fun H locs ls hI hl => ?_) (fun i hi H locs ls hI hl ih => ?_)
    · have hI : KI D A (lw ad oa cb ca v (lO v) (lK (xp v) (xt v) (xq v) (xk v) (xl v) (xm v) (xc v)) (hw sa ca (hS v 40 0))) s.heap H locs := hI
      have hl : lv_has ls 13 [(8, .int (nI 40)), (3, .int (xRows v 40)), (4, .int (xShRows v 40)), (5, .int (zBe v 40)), (6, .ref sa), (7, .int 1), (0, .ref (ad 0)), (1, .ref oa), (2, .ref cb)] := hl
      refine lv_iload cx.1 cx.2.1 dL_isTold_65 (lv_at hl 0 rfl) ?_
      refine lv_bipush (v := 40) cx.1 cx.2.1 dL_isTold_67 (by decide) ?_
      refine lv_icmp_ge (tgt := 389) cx.1 cx.2.1 dL_isTold_69 (by decide) (fun _ => ?_) (fun h9 => absurd (by decide : (40 : Int32) ≤ nI 40) h9)
      refine lv_iconst (v := 0) cx.1 cx.2.1 dL_isTold_389 (by decide) ?_
      refine lv_istore (lv' := [(8, .int 0), (3, .int (xRows v 40)), (4, .int (xShRows v 40)), (5, .int (zBe v 40)), (6, .ref sa), (7, .int 1), (0, .ref (ad 0)), (1, .ref oa), (2, .ref cb)]) cx.1 cx.2.1 dL_isTold_390 hl (by decide) rfl (fun ls hl => ?_)
      refine k_loop 3 (fun k => (lw ad oa cb ca v (lO v) (lK (xp v) (xt v) (xq v) (xk v) (xl v) (xm v) (xc v)) (hw sa ca (hS v 40 0)))) (fun k => [(8, .int (nI k)), (3, .int (xRows v 40)), (4, .int (xShRows v 40)), (5, .int (zBe v 40)), (6, .ref sa), (7, .int 1), (0, .ref (ad 0)), (1, .ref oa), (2, .ref cb)]) hI (lv_sub hl [0, 1, 2, 3, 4, 5, 6, 7, 8] rfl) (fun H locs ls hI hl => ?_) (fun k hk H locs ls hI hl ih => ?_)
      · have hI : KI D A (lw ad oa cb ca v (lO v) (lK (xp v) (xt v) (xq v) (xk v) (xl v) (xm v) (xc v)) (hw sa ca (hS v 40 0))) s.heap H locs := hI
        have hl : lv_has ls 13 [(8, .int (nI 3)), (3, .int (xRows v 40)), (4, .int (xShRows v 40)), (5, .int (zBe v 40)), (6, .ref sa), (7, .int 1), (0, .ref (ad 0)), (1, .ref oa), (2, .ref cb)] := hl
        refine lv_iload cx.1 cx.2.1 dL_isTold_392 (lv_at hl 0 rfl) ?_
        refine lv_iconst (v := 3) cx.1 cx.2.1 dL_isTold_394 (by decide) ?_
        refine lv_icmp_ge (tgt := 446) cx.1 cx.2.1 dL_isTold_395 (by decide) (fun _ => ?_) (fun h9 => absurd (by decide : (3 : Int32) ≤ nI 3) h9)
        refine lv_iload cx.1 cx.2.1 dL_isTold_446 (lv_at hl 5 rfl) ?_
        refine lv_if_eq (tgt := 481) cx.1 cx.2.1 dL_isTold_448 (by decide) (fun h9 => absurd h9 (by decide)) (fun _ => ?_)
        refine lv_aload_n cx.1 cx.2.1 dL_isTold_451 rfl (lv_at hl 6 rfl) ?_
        refine lc_i 0 cx (hl.1.trans hml.symm) (kX0_rows l D ca ad v) hI wk_408 wk_405 wk_406 wk_407 ⟨rfl, by decide +kernel⟩ rfl ⟨rfl, rfl⟩ ⟨Nat.le_of_ble_eq_true rfl, Nat.le_of_ble_eq_true rfl⟩ (Nat.le_of_ble_eq_true rfl) dL_isTold_452 ⟨Nat.le_of_ble_eq_true rfl, Nat.le_of_ble_eq_true rfl⟩ rfl (fun H locs hI => ?_)
        refine lv_iload_n cx.1 cx.2.1 dL_isTold_455 rfl (lv_at hl 1 rfl) ?_
        refine lv_icmp_ne (tgt := 481) cx.1 cx.2.1 dL_isTold_456 (by decide) (fun h9 => absurd h9 (fun q => q rfl)) (fun _ => ?_)
        refine lv_aload_n cx.1 cx.2.1 dL_isTold_459 rfl (lv_at hl 6 rfl) ?_
        refine lc_i 0 cx (hl.1.trans hml.symm) (kX0_shadowRows l D ca ad v) hI wk_171 wk_168 wk_169 wk_170 ⟨rfl, by decide +kernel⟩ rfl ⟨rfl, rfl⟩ ⟨Nat.le_of_ble_eq_true rfl, Nat.le_of_ble_eq_true rfl⟩ (Nat.le_of_ble_eq_true rfl) dL_isTold_460 ⟨Nat.le_of_ble_eq_true rfl, Nat.le_of_ble_eq_true rfl⟩ rfl (fun H locs hI => ?_)
        refine lv_iload cx.1 cx.2.1 dL_isTold_463 (lv_at hl 2 rfl) ?_
        refine lv_icmp_ne (tgt := 481) cx.1 cx.2.1 dL_isTold_465 (by decide) (fun h9 => absurd h9 (fun q => q rfl)) (fun _ => ?_)
        refine lv_aload_n cx.1 cx.2.1 dL_isTold_468 rfl (lv_at hl 6 rfl) ?_
        refine lc_i 0 cx (hl.1.trans hml.symm) (kX0_behind l D ca ad v) hI wk_179 wk_176 wk_177 wk_178 ⟨rfl, by decide +kernel⟩ rfl ⟨rfl, rfl⟩ ⟨Nat.le_of_ble_eq_true rfl, Nat.le_of_ble_eq_true rfl⟩ (Nat.le_of_ble_eq_true rfl) dL_isTold_469 ⟨Nat.le_of_ble_eq_true rfl, Nat.le_of_ble_eq_true rfl⟩ rfl (fun H locs hI => ?_)
        refine lv_iload cx.1 cx.2.1 dL_isTold_472 (lv_at hl 3 rfl) ?_
        refine lv_icmp_ne (tgt := 481) cx.1 cx.2.1 dL_isTold_474 (by decide) (fun h9 => absurd h9 (fun q => q (zBe_40 v))) (fun _ => ?_)
        refine lv_iconst (v := 1) cx.1 cx.2.1 dL_isTold_477 (by decide) ?_
        refine lv_goto (tgt := 482) cx.1 cx.2.1 dL_isTold_478 (by decide) ?_
        exact ke_g (lw ad oa cb ca v (lO v) (lC v) []) (hw sa ca (hS v 40 0)) cx hr hlk hI (Nat.le_of_ble_eq_true rfl) (Nat.le_of_ble_eq_true rfl) dL_isTold_482 rfl rfl rfl
      · have hI : KI D A (lw ad oa cb ca v (lO v) (lK (xp v) (xt v) (xq v) (xk v) (xl v) (xm v) (xc v)) (hw sa ca (hS v 40 0))) s.heap H locs := hI
        have hl : lv_has ls 13 [(8, .int (nI k)), (3, .int (xRows v 40)), (4, .int (xShRows v 40)), (5, .int (zBe v 40)), (6, .ref sa), (7, .int 1), (0, .ref (ad 0)), (1, .ref oa), (2, .ref cb)] := hl
        refine lv_iload cx.1 cx.2.1 dL_isTold_392 (lv_at hl 0 rfl) ?_
        refine lv_iconst (v := 3) cx.1 cx.2.1 dL_isTold_394 (by decide) ?_
        refine lv_icmp_ge (tgt := 446) cx.1 cx.2.1 dL_isTold_395 (by decide) (fun h9 => absurd h9 (nI_ge hk (by decide))) (fun _ => ?_)
        refine lv_iload cx.1 cx.2.1 dL_isTold_398 (lv_at hl 5 rfl) ?_
        refine lv_if_eq (tgt := 446) cx.1 cx.2.1 dL_isTold_400 (by decide) (fun h9 => absurd h9 (by decide)) (fun _ => ?_)
        refine lv_aload_n cx.1 cx.2.1 dL_isTold_403 rfl (lv_at hl 6 rfl) ?_
        refine lv_iload cx.1 cx.2.1 dL_isTold_404 (lv_at hl 0 rfl) ?_
        refine lc_i 1 cx (hl.1.trans hml.symm) (kS_sum l D ca ad v (nI k) (vp_in_nI hk (by decide))) hI wk_427 wk_424 wk_425 wk_426 ⟨rfl, by decide +kernel⟩ rfl ⟨rfl, rfl⟩ ⟨Nat.le_of_ble_eq_true rfl, Nat.le_of_ble_eq_true rfl⟩ (Nat.le_of_ble_eq_true rfl) dL_isTold_406 ⟨Nat.le_of_ble_eq_true rfl, Nat.le_of_ble_eq_true rfl⟩ rfl (fun H locs hI => ?_)
        refine lv_aload cx.1 cx.2.1 dL_isTold_409 (lv_at hl 4 rfl) ?_
        refine lv_iload cx.1 cx.2.1 dL_isTold_411 (lv_at hl 0 rfl) ?_
        refine lr_hn cx hI (by omega) dL_isTold_413 ?_
        refine lv_icmp_ne (tgt := 437) cx.1 cx.2.1 dL_isTold_414 (by decide) (fun h9 => absurd h9 (fun q => q (hS_sum v hk).1.symm)) (fun _ => ?_)
        refine lv_aload_n cx.1 cx.2.1 dL_isTold_417 rfl (lv_at hl 6 rfl) ?_
        refine lv_iload cx.1 cx.2.1 dL_isTold_418 (lv_at hl 0 rfl) ?_
        refine lc_i 1 cx (hl.1.trans hml.symm) (kS_sumAtOnce l D ca ad v (nI k) (vp_in_nI hk (by decide))) hI wk_432 wk_429 wk_430 wk_431 ⟨rfl, by decide +kernel⟩ rfl ⟨rfl, rfl⟩ ⟨Nat.le_of_ble_eq_true rfl, Nat.le_of_ble_eq_true rfl⟩ (Nat.le_of_ble_eq_true rfl) dL_isTold_420 ⟨Nat.le_of_ble_eq_true rfl, Nat.le_of_ble_eq_true rfl⟩ rfl (fun H locs hI => ?_)
        refine lv_aload cx.1 cx.2.1 dL_isTold_423 (lv_at hl 4 rfl) ?_
        refine lv_iconst (v := 3) cx.1 cx.2.1 dL_isTold_425 (by decide) ?_
        refine lv_iload cx.1 cx.2.1 dL_isTold_426 (lv_at hl 0 rfl) ?_
        refine lv_iadd cx.1 cx.2.1 dL_isTold_428 ?_
        refine k_top (y := nI (k + 3)) (n3k k) ?_
        refine lr_hn cx hI (by omega) dL_isTold_429 ?_
        refine lv_icmp_ne (tgt := 437) cx.1 cx.2.1 dL_isTold_430 (by decide) (fun h9 => absurd h9 (fun q => q ((zAt_40 v (nI k)).trans (hS_sum v hk).2.symm))) (fun _ => ?_)
        refine lv_iconst (v := 1) cx.1 cx.2.1 dL_isTold_433 (by decide) ?_
        refine lv_goto (tgt := 438) cx.1 cx.2.1 dL_isTold_434 (by decide) ?_
        refine lv_istore (lv' := [(7, .int 1), (8, .int (nI k)), (3, .int (xRows v 40)), (4, .int (xShRows v 40)), (5, .int (zBe v 40)), (6, .ref sa), (0, .ref (ad 0)), (1, .ref oa), (2, .ref cb)]) cx.1 cx.2.1 dL_isTold_438 hl (by decide) rfl (fun ls hl => ?_)
        refine lv_iinc (v := nI (k + 1)) (lv' := [(8, .int (nI (k + 1))), (7, .int 1), (3, .int (xRows v 40)), (4, .int (xShRows v 40)), (5, .int (zBe v 40)), (6, .ref sa), (0, .ref (ad 0)), (1, .ref oa), (2, .ref cb)]) cx.1 cx.2.1 dL_isTold_440 hl (k := 1) rfl (nI_1 k) (by decide) rfl (fun ls hl => ?_)
        refine lv_goto (tgt := 392) cx.1 cx.2.1 dL_isTold_443 (by decide) ?_
        refine ih _ _ _ ?_ ?_
        · show KI D A (lw ad oa cb ca v (lO v) (lK (xp v) (xt v) (xq v) (xk v) (xl v) (xm v) (xc v)) (hw sa ca (hS v 40 0))) s.heap _ _
          exact hI
        · show lv_has _ _ [(8, .int (nI (k + 1))), (3, .int (xRows v 40)), (4, .int (xShRows v 40)), (5, .int (zBe v 40)), (6, .ref sa), (7, .int 1), (0, .ref (ad 0)), (1, .ref oa), (2, .ref cb)]
          exact lv_sub hl [0, 2, 3, 4, 5, 1, 6, 7, 8] rfl
    · have hI : KI D A (lw ad oa cb ca v (lO v) (lK (xp v) (xt v) (xq v) (xk v) (xl v) (xm v) (xc v)) (hw sa ca (hS v i 0))) s.heap H locs := hI
      have hl : lv_has ls 13 [(8, .int (nI i)), (3, .int (xRows v i)), (4, .int (xShRows v i)), (5, .int (zBe v i)), (6, .ref sa), (7, .int 1), (0, .ref (ad 0)), (1, .ref oa), (2, .ref cb)] := hl
      refine lv_iload cx.1 cx.2.1 dL_isTold_65 (lv_at hl 0 rfl) ?_
      refine lv_bipush (v := 40) cx.1 cx.2.1 dL_isTold_67 (by decide) ?_
      refine lv_icmp_ge (tgt := 389) cx.1 cx.2.1 dL_isTold_69 (by decide) (fun h9 => absurd h9 (nI_ge hi (by decide))) (fun _ => ?_)
      refine lv_iload cx.1 cx.2.1 dL_isTold_72 (lv_at hl 5 rfl) ?_
      refine lv_if_eq (tgt := 389) cx.1 cx.2.1 dL_isTold_74 (by decide) (fun h9 => absurd h9 (by decide)) (fun _ => ?_)
      refine lv_aload_n cx.1 cx.2.1 dL_isTold_77 rfl (lv_at hl 6 rfl) ?_
      refine lv_aload_n cx.1 cx.2.1 dL_isTold_78 rfl (lv_at hl 7 rfl) ?_
      refine lv_aload_n cx.1 cx.2.1 dL_isTold_79 rfl (lv_at hl 8 rfl) ?_
      refine lv_iload cx.1 cx.2.1 dL_isTold_80 (lv_at hl 0 rfl) ?_
      refine lc_w 4 cx (hl.1.trans hml.symm) (kL_isSeen l D ca ad oa cb v (lO v) (xp v) (xt v) (xq v) (xk v) (xl v) (xm v) (xc v) hi (hA i hi) (hZ i hi) rfl rfl) hI wk_82 wk_80 wk_81 wk_0 ⟨by decide, by decide, by decide +kernel⟩ rfl ⟨rfl, rfl⟩ ⟨Nat.le_of_ble_eq_true rfl, Nat.le_of_ble_eq_true rfl⟩ (Nat.le_of_ble_eq_true rfl) dL_isTold_82 ⟨Nat.le_of_ble_eq_true rfl, Nat.le_of_ble_eq_true rfl⟩ rfl (fun H locs hI => ?_)
      refine lv_istore (lv' := [(9, .int (b2i (xSeen v (nI i)))), (8, .int (nI i)), (3, .int (xRows v i)), (4, .int (xShRows v i)), (5, .int (zBe v i)), (6, .ref sa), (7, .int 1), (0, .ref (ad 0)), (1, .ref oa), (2, .ref cb)]) cx.1 cx.2.1 dL_isTold_85 hl (by decide) rfl (fun ls hl => ?_)
      refine lv_aload_n cx.1 cx.2.1 dL_isTold_87 rfl (lv_at hl 7 rfl) ?_
      refine lv_iload cx.1 cx.2.1 dL_isTold_88 (lv_at hl 1 rfl) ?_
      refine lv_iconst (v := 0) cx.1 cx.2.1 dL_isTold_90 (by decide) ?_
      refine lc_i 2 cx (hl.1.trans hml.symm) (kS_shadow l D ca ad v (nI i) 0 (vp_in_nI hi (by decide)) (vp_in_nI (n := 0) (by decide) (by decide))) hI wk_86 wk_83 wk_84 wk_85 ⟨rfl, by decide +kernel⟩ rfl ⟨rfl, rfl⟩ ⟨Nat.le_of_ble_eq_true rfl, Nat.le_of_ble_eq_true rfl⟩ (Nat.le_of_ble_eq_true rfl) dL_isTold_91 ⟨Nat.le_of_ble_eq_true rfl, Nat.le_of_ble_eq_true rfl⟩ rfl (fun H locs hI => ?_)
      refine k_top (y := xC v 0 i) (congrArg (xC v 0) (kx hi)) ?_
      refine k_join (D := D) (A := A) 102 (lw ad oa cb ca v (lO v) (lK (xp v) (xt v) (xq v) (xk v) (xl v) (xm v) (xc v)) (hw sa ca (hS v i 0))) [.int (b2i (xSh v (nI i)))] (fun H locs hI => ?_) (fun hj102 => ?_)
      · refine lv_istore (lv' := [(10, .int (b2i (xSh v (nI i)))), (9, .int (b2i (xSeen v (nI i)))), (8, .int (nI i)), (3, .int (xRows v i)), (4, .int (xShRows v i)), (5, .int (zBe v i)), (6, .ref sa), (7, .int 1), (0, .ref (ad 0)), (1, .ref oa), (2, .ref cb)]) cx.1 cx.2.1 dL_isTold_102 hl (by decide) rfl (fun ls hl => ?_)
        refine lv_iload_n cx.1 cx.2.1 dL_isTold_104 rfl (lv_at hl 3 rfl) ?_
        refine lv_iload cx.1 cx.2.1 dL_isTold_105 (lv_at hl 1 rfl) ?_
        refine k_join (D := D) (A := A) 115 (lw ad oa cb ca v (lO v) (lK (xp v) (xt v) (xq v) (xk v) (xl v) (xm v) (xc v)) (hw sa ca (hS v i 0))) [.int (b2i (xSeen v (nI i))), .int (xRows v i)] (fun H locs hI => ?_) (fun hj115 => ?_)
        · refine lv_iadd cx.1 cx.2.1 dL_isTold_115 ?_
          refine lv_istore_n (lv' := [(3, .int ((xRows v i) + (b2i (xSeen v (nI i))))), (10, .int (b2i (xSh v (nI i)))), (9, .int (b2i (xSeen v (nI i)))), (8, .int (nI i)), (4, .int (xShRows v i)), (5, .int (zBe v i)), (6, .ref sa), (7, .int 1), (0, .ref (ad 0)), (1, .ref oa), (2, .ref cb)]) cx.1 cx.2.1 dL_isTold_116 rfl hl (by decide) rfl (fun ls hl => ?_)
          refine lv_iload cx.1 cx.2.1 dL_isTold_117 (lv_at hl 4 rfl) ?_
          refine lv_iload cx.1 cx.2.1 dL_isTold_119 (lv_at hl 1 rfl) ?_
          refine k_join (D := D) (A := A) 129 (lw ad oa cb ca v (lO v) (lK (xp v) (xt v) (xq v) (xk v) (xl v) (xm v) (xc v)) (hw sa ca (hS v i 0))) [.int (b2i (xSh v (nI i))), .int (xShRows v i)] (fun H locs hI => ?_) (fun hj129 => ?_)
          · refine lv_iadd cx.1 cx.2.1 dL_isTold_129 ?_
            refine lv_istore (lv' := [(4, .int ((xShRows v i) + (b2i (xSh v (nI i))))), (3, .int ((xRows v i) + (b2i (xSeen v (nI i))))), (10, .int (b2i (xSh v (nI i)))), (9, .int (b2i (xSeen v (nI i)))), (8, .int (nI i)), (5, .int (zBe v i)), (6, .ref sa), (7, .int 1), (0, .ref (ad 0)), (1, .ref oa), (2, .ref cb)]) cx.1 cx.2.1 dL_isTold_130 hl (by decide) rfl (fun ls hl => ?_)
            refine lv_iload cx.1 cx.2.1 dL_isTold_132 (lv_at hl 5 rfl) ?_
            refine lv_aload_n cx.1 cx.2.1 dL_isTold_134 rfl (lv_at hl 10 rfl) ?_
            refine lv_iconst (v := 0) cx.1 cx.2.1 dL_isTold_135 (by decide) ?_
            refine lr_c cx hI (vp_in_nI (n := 0) (by decide) (by decide)) dL_isTold_136 ?_
            refine k_top (y := xp v) rfl ?_
            refine k_join (D := D) (A := A) 156 (lw ad oa cb ca v (lO v) (lK (xp v) (xt v) (xq v) (xk v) (xl v) (xm v) (xc v)) (hw sa ca (hS v i 0))) [.int (b2i (!decide (xp v = 0) && xBeh v (nI i))), .int (zBe v i)] (fun H locs hI => ?_) (fun hj156 => ?_)
            · refine lv_iadd cx.1 cx.2.1 dL_isTold_156 ?_
              refine lv_istore (lv' := [(5, .int ((zBe v i) + (b2i (!decide (xp v = 0) && xBeh v (nI i))))), (4, .int ((xShRows v i) + (b2i (xSh v (nI i))))), (3, .int ((xRows v i) + (b2i (xSeen v (nI i))))), (10, .int (b2i (xSh v (nI i)))), (9, .int (b2i (xSeen v (nI i)))), (8, .int (nI i)), (6, .ref sa), (7, .int 1), (0, .ref (ad 0)), (1, .ref oa), (2, .ref cb)]) cx.1 cx.2.1 dL_isTold_157 hl (by decide) rfl (fun ls hl => ?_)
              refine lv_iconst (v := 0) cx.1 cx.2.1 dL_isTold_159 (by decide) ?_
              refine lv_istore (lv' := [(11, .int 0), (5, .int ((zBe v i) + (b2i (!decide (xp v = 0) && xBeh v (nI i))))), (4, .int ((xShRows v i) + (b2i (xSh v (nI i))))), (3, .int ((xRows v i) + (b2i (xSeen v (nI i))))), (10, .int (b2i (xSh v (nI i)))), (9, .int (b2i (xSeen v (nI i)))), (8, .int (nI i)), (6, .ref sa), (7, .int 1), (0, .ref (ad 0)), (1, .ref oa), (2, .ref cb)]) cx.1 cx.2.1 dL_isTold_160 hl (by decide) rfl (fun ls hl => ?_)
              refine k_loop 3 (fun k => (lw ad oa cb ca v (lO v) (lK (xp v) (xt v) (xq v) (xk v) (xl v) (xm v) (xc v)) (hw sa ca (hS v i k)))) (fun k => [(11, .int (nI k)), (8, .int (nI i)), (3, .int (xRows v i + b2i (xSeen v (nI i)))), (4, .int (xShRows v i + b2i (xSh v (nI i)))), (5, .int (zBe v i + b2i (!decide (xp v = 0) && xBeh v (nI i)))), (6, .ref sa), (7, .int 1), (9, .int (b2i (xSeen v (nI i)))), (10, .int (b2i (xSh v (nI i)))), (0, .ref (ad 0)), (1, .ref oa), (2, .ref cb)]) hI (lv_sub hl [0, 6, 3, 2, 1, 7, 8, 5, 4, 9, 10, 11] rfl) (fun H locs ls hI hl => ?_) (fun k hk H locs ls hI hl ih => ?_)
              · have hI : KI D A (lw ad oa cb ca v (lO v) (lK (xp v) (xt v) (xq v) (xk v) (xl v) (xm v) (xc v)) (hw sa ca (hS v i 3))) s.heap H locs := hI
                have hl : lv_has ls 13 [(11, .int (nI 3)), (8, .int (nI i)), (3, .int (xRows v i + b2i (xSeen v (nI i)))), (4, .int (xShRows v i + b2i (xSh v (nI i)))), (5, .int (zBe v i + b2i (!decide (xp v = 0) && xBeh v (nI i)))), (6, .ref sa), (7, .int 1), (9, .int (b2i (xSeen v (nI i)))), (10, .int (b2i (xSh v (nI i)))), (0, .ref (ad 0)), (1, .ref oa), (2, .ref cb)] := hl
                refine lv_iload cx.1 cx.2.1 dL_isTold_162 (lv_at hl 0 rfl) ?_
                refine lv_iconst (v := 3) cx.1 cx.2.1 dL_isTold_164 (by decide) ?_
                refine lv_icmp_ge (tgt := 271) cx.1 cx.2.1 dL_isTold_165 (by decide) (fun _ => ?_) (fun h9 => absurd (by decide : (3 : Int32) ≤ nI 3) h9)
                refine lv_iload cx.1 cx.2.1 dL_isTold_271 (lv_at hl 6 rfl) ?_
                refine lv_if_eq (tgt := 380) cx.1 cx.2.1 dL_isTold_273 (by decide) (fun h9 => absurd h9 (by decide)) (fun _ => ?_)
                refine lv_aload_n cx.1 cx.2.1 dL_isTold_276 rfl (lv_at hl 9 rfl) ?_
                refine lv_iload cx.1 cx.2.1 dL_isTold_277 (lv_at hl 1 rfl) ?_
                refine lc_i 1 cx (hl.1.trans hml.symm) (kS_row l D ca ad v (nI i) (vp_in_nI hi (by decide))) hI wk_404 wk_401 wk_402 wk_403 ⟨rfl, by decide +kernel⟩ rfl ⟨rfl, rfl⟩ ⟨Nat.le_of_ble_eq_true rfl, Nat.le_of_ble_eq_true rfl⟩ (Nat.le_of_ble_eq_true rfl) dL_isTold_279 ⟨Nat.le_of_ble_eq_true rfl, Nat.le_of_ble_eq_true rfl⟩ rfl (fun H locs hI => ?_)
                refine lv_iload cx.1 cx.2.1 dL_isTold_282 (lv_at hl 7 rfl) ?_
                refine k_join (D := D) (A := A) 295 (lw ad oa cb ca v (lO v) (lK (xp v) (xt v) (xq v) (xk v) (xl v) (xm v) (xc v)) (hw sa ca (hS v i 3))) [.int (if xSeen v (nI i) then xRow v (nI i) else -1), .int (if xSeen v (nI i) then xRow v (nI i) else -1)] (fun H locs hI => ?_) (fun hj295 => ?_)
                · refine lv_icmp_ne (tgt := 380) cx.1 cx.2.1 dL_isTold_295 (by decide) (fun h9 => absurd h9 (fun q => q rfl)) (fun _ => ?_)
                  refine lv_aload_n cx.1 cx.2.1 dL_isTold_298 rfl (lv_at hl 11 rfl) ?_
                  refine lv_iconst (v := 0) cx.1 cx.2.1 dL_isTold_299 (by decide) ?_
                  refine lr_c cx hI (vp_in_nI (n := 0) (by decide) (by decide)) dL_isTold_300 ?_
                  refine k_top (y := xp v) rfl ?_
                  refine k_join (D := D) (A := A) 318 (lw ad oa cb ca v (lO v) (lK (xp v) (xt v) (xq v) (xk v) (xl v) (xm v) (xc v)) (hw sa ca (hS v i 3))) [] (fun H locs hI => ?_) (fun hj318 => ?_)
                  · refine lv_iload cx.1 cx.2.1 dL_isTold_318 (lv_at hl 8 rfl) ?_
                    refine k_join (D := D) (A := A) 332 (lw ad oa cb ca v (lO v) (lK (xp v) (xt v) (xq v) (xk v) (xl v) (xm v) (xc v)) (hw sa ca (hS v i 3))) [] (fun H locs hI => ?_) (fun hj332 => ?_)
                    · refine lv_aload_n cx.1 cx.2.1 dL_isTold_332 rfl (lv_at hl 11 rfl) ?_
                      refine lv_iconst (v := 0) cx.1 cx.2.1 dL_isTold_333 (by decide) ?_
                      refine lr_c cx hI (vp_in_nI (n := 0) (by decide) (by decide)) dL_isTold_334 ?_
                      refine k_top (y := xp v) rfl ?_
                      refine lv_iconst (v := 2) cx.1 cx.2.1 dL_isTold_335 (by decide) ?_
                      refine k_join (D := D) (A := A) 376 (lw ad oa cb ca v (lO v) (lK (xp v) (xt v) (xq v) (xk v) (xl v) (xm v) (xc v)) (hw sa ca (hS v i 3))) [] (fun H locs hI => ?_) (fun hj376 => ?_)
                      · refine lv_iconst (v := 1) cx.1 cx.2.1 dL_isTold_376 (by decide) ?_
                        refine lv_goto (tgt := 381) cx.1 cx.2.1 dL_isTold_377 (by decide) ?_
                        refine lv_istore (lv' := [(7, .int 1), (11, .int (nI 3)), (8, .int (nI i)), (3, .int (xRows v i + b2i (xSeen v (nI i)))), (4, .int (xShRows v i + b2i (xSh v (nI i)))), (5, .int (zBe v i + b2i (!decide (xp v = 0) && xBeh v (nI i)))), (6, .ref sa), (9, .int (b2i (xSeen v (nI i)))), (10, .int (b2i (xSh v (nI i)))), (0, .ref (ad 0)), (1, .ref oa), (2, .ref cb)]) cx.1 cx.2.1 dL_isTold_381 hl (by decide) rfl (fun ls hl => ?_)
                        refine lv_iinc (v := nI (i + 1)) (lv' := [(8, .int (nI (i + 1))), (7, .int 1), (11, .int (nI 3)), (3, .int (xRows v i + b2i (xSeen v (nI i)))), (4, .int (xShRows v i + b2i (xSh v (nI i)))), (5, .int (zBe v i + b2i (!decide (xp v = 0) && xBeh v (nI i)))), (6, .ref sa), (9, .int (b2i (xSeen v (nI i)))), (10, .int (b2i (xSh v (nI i)))), (0, .ref (ad 0)), (1, .ref oa), (2, .ref cb)]) cx.1 cx.2.1 dL_isTold_383 hl (k := 2) rfl (nI_1 i) (by decide) rfl (fun ls hl => ?_)
                        refine lv_goto (tgt := 65) cx.1 cx.2.1 dL_isTold_386 (by decide) ?_
                        refine ih _ _ _ ?_ ?_
                        · show KI D A (lw ad oa cb ca v (lO v) (lK (xp v) (xt v) (xq v) (xk v) (xl v) (xm v) (xc v)) (hw sa ca (hS v (i + 1) 0))) s.heap _ _
                          rw [hS_next]
                          exact hI
                        · show lv_has _ _ [(8, .int (nI (i + 1))), (3, .int (xRows v (i + 1))), (4, .int (xShRows v (i + 1))), (5, .int (zBe v (i + 1))), (6, .ref sa), (7, .int 1), (0, .ref (ad 0)), (1, .ref oa), (2, .ref cb)]
                          exact lv_sub hl [0, 3, 4, 5, 6, 1, 9, 10, 11] rfl
                      ·
                        refine lv_icmp_ne (tgt := 376) cx.1 cx.2.1 dL_isTold_336 (by decide) (fun c_15 => ?_) (fun c_15 => ?_)
                        · exact hj376 _ _ hI
                        · refine lv_aload_n cx.1 cx.2.1 dL_isTold_339 rfl (lv_at hl 9 rfl) ?_
                          refine lv_aload_n cx.1 cx.2.1 dL_isTold_340 rfl (lv_at hl 10 rfl) ?_
                          refine lv_aload_n cx.1 cx.2.1 dL_isTold_341 rfl (lv_at hl 11 rfl) ?_
                          refine lv_iload cx.1 cx.2.1 dL_isTold_342 (lv_at hl 1 rfl) ?_
                          refine lc_w 4 cx (hl.1.trans hml.symm) (kL_isEven l D ca ad oa cb v (lO v) (xp v) (xt v) (xq v) (xk v) (xl v) (xm v) (xc v) hi (hA i hi) rfl rfl rfl) hI wk_388 wk_386 wk_387 wk_0 ⟨by decide, by decide, by decide +kernel⟩ rfl ⟨rfl, rfl⟩ ⟨Nat.le_of_ble_eq_true rfl, Nat.le_of_ble_eq_true rfl⟩ (Nat.le_of_ble_eq_true rfl) dL_isTold_344 ⟨Nat.le_of_ble_eq_true rfl, Nat.le_of_ble_eq_true rfl⟩ rfl (fun H locs hI => ?_)
                          refine kb_eq (tgt := 380) cx dL_isTold_347 (by decide) (fun h9 => absurd h9 (by rw [(told_cut hX hi c_15).1]; decide)) (fun _ => ?_)
                          refine lv_aload_n cx.1 cx.2.1 dL_isTold_350 rfl (lv_at hl 9 rfl) ?_
                          refine lv_iload cx.1 cx.2.1 dL_isTold_351 (lv_at hl 1 rfl) ?_
                          refine lc_i 1 cx (hl.1.trans hml.symm) (kS_isRefused l D ca ad v (nI i) (hz_of hX.1) (vp_in_nI hi (by decide))) hI wk_392 wk_389 wk_390 wk_391 ⟨rfl, by decide +kernel⟩ rfl ⟨rfl, rfl⟩ ⟨Nat.le_of_ble_eq_true rfl, Nat.le_of_ble_eq_true rfl⟩ (Nat.le_of_ble_eq_true rfl) dL_isTold_353 ⟨Nat.le_of_ble_eq_true rfl, Nat.le_of_ble_eq_true rfl⟩ rfl (fun H locs hI => ?_)
                          refine k_top (y := xR v i) (congrArg (xR v) (kx hi)) ?_
                          refine lv_aload_n cx.1 cx.2.1 dL_isTold_356 rfl (lv_at hl 10 rfl) ?_
                          refine lv_iload cx.1 cx.2.1 dL_isTold_357 (lv_at hl 1 rfl) ?_
                          refine lr_on cx hI hi dL_isTold_359 ?_
                          refine k_join (D := D) (A := A) 373 (lw ad oa cb ca v (lO v) (lK (xp v) (xt v) (xq v) (xk v) (xl v) (xm v) (xc v)) (hw sa ca (hS v i 3))) [.int (b2i (xOld v (nI i) && !xSh v (nI i))), .int (xR v i)] (fun H locs hI => ?_) (fun hj373 => ?_)
                          · refine lv_icmp_ne (tgt := 380) cx.1 cx.2.1 dL_isTold_373 (by decide) (fun h9 => absurd h9 (fun q => q (told_cut hX hi c_15).2)) (fun _ => ?_)
                            exact hj376 _ _ hI
                          ·
                            refine lv_if_lt (tgt := 372) cx.1 cx.2.1 dL_isTold_360 (by decide) (fun c_18 => ?_) (fun c_18 => ?_)
                            · refine lv_iconst (v := 0) cx.1 cx.2.1 dL_isTold_372 (by decide) ?_
                              exact k_top (by first | exact ref_a (lO_lt hi (hA i hi) c_18) | exact ref_b c_18) (hj373 _ _ hI)
                            · refine lv_iload cx.1 cx.2.1 dL_isTold_363 (lv_at hl 8 rfl) ?_
                              refine kb_ne (tgt := 372) cx dL_isTold_365 (by decide) (fun c_19 => ?_) (fun c_19 => ?_)
                              · refine lv_iconst (v := 0) cx.1 cx.2.1 dL_isTold_372 (by decide) ?_
                                exact k_top (by first | exact ref_a (lO_lt hi (hA i hi) c_19) | exact ref_b c_19) (hj373 _ _ hI)
                              · refine lv_iconst (v := 1) cx.1 cx.2.1 dL_isTold_368 (by decide) ?_
                                refine lv_goto (tgt := 373) cx.1 cx.2.1 dL_isTold_369 (by decide) ?_
                                exact k_top (ref_c (lO_ge hi (hA i hi) c_18) c_19) (hj373 _ _ hI)
                    ·
                      refine kb_eq (tgt := 332) cx dL_isTold_320 (by decide) (fun c_20 => ?_) (fun c_20 => ?_)
                      · exact hj332 _ _ hI
                      · refine lv_aload_n cx.1 cx.2.1 dL_isTold_323 rfl (lv_at hl 9 rfl) ?_
                        refine lv_iload cx.1 cx.2.1 dL_isTold_324 (lv_at hl 1 rfl) ?_
                        refine lc_i 1 cx (hl.1.trans hml.symm) (kS_isRefused l D ca ad v (nI i) (hz_of hX.1) (vp_in_nI hi (by decide))) hI wk_392 wk_389 wk_390 wk_391 ⟨rfl, by decide +kernel⟩ rfl ⟨rfl, rfl⟩ ⟨Nat.le_of_ble_eq_true rfl, Nat.le_of_ble_eq_true rfl⟩ (Nat.le_of_ble_eq_true rfl) dL_isTold_326 ⟨Nat.le_of_ble_eq_true rfl, Nat.le_of_ble_eq_true rfl⟩ rfl (fun H locs hI => ?_)
                        refine k_top (y := xR v i) (congrArg (xR v) (kx hi)) ?_
                        refine lv_if_ne (tgt := 380) cx.1 cx.2.1 dL_isTold_329 (by decide) (fun h9 => absurd h9 (fun q => q (l_ref hi (hZ i hi) c_20))) (fun _ => ?_)
                        exact hj332 _ _ hI
                  ·
                    refine lv_if_gt (tgt := 318) cx.1 cx.2.1 dL_isTold_301 (by decide) (fun c_22 => ?_) (fun c_22 => ?_)
                    · exact hj318 _ _ hI
                    · refine lv_iload cx.1 cx.2.1 dL_isTold_304 (lv_at hl 8 rfl) ?_
                      refine kb_ne (tgt := 380) cx dL_isTold_306 (by decide) (fun h9 => absurd h9 (by rw [(told_idle hX hi c_22).1]; decide)) (fun _ => ?_)
                      refine lv_aload_n cx.1 cx.2.1 dL_isTold_309 rfl (lv_at hl 9 rfl) ?_
                      refine lv_iload cx.1 cx.2.1 dL_isTold_310 (lv_at hl 1 rfl) ?_
                      refine lc_i 1 cx (hl.1.trans hml.symm) (kS_isRefused l D ca ad v (nI i) (hz_of hX.1) (vp_in_nI hi (by decide))) hI wk_392 wk_389 wk_390 wk_391 ⟨rfl, by decide +kernel⟩ rfl ⟨rfl, rfl⟩ ⟨Nat.le_of_ble_eq_true rfl, Nat.le_of_ble_eq_true rfl⟩ (Nat.le_of_ble_eq_true rfl) dL_isTold_312 ⟨Nat.le_of_ble_eq_true rfl, Nat.le_of_ble_eq_true rfl⟩ rfl (fun H locs hI => ?_)
                      refine k_top (y := xR v i) (congrArg (xR v) (kx hi)) ?_
                      refine lv_if_ne (tgt := 380) cx.1 cx.2.1 dL_isTold_315 (by decide) (fun h9 => absurd h9 (fun q => q (told_idle hX hi c_22).2)) (fun _ => ?_)
                      exact hj318 _ _ hI
                ·
                  refine kb_eq (tgt := 294) cx dL_isTold_284 (by decide) (fun c_25 => ?_) (fun c_25 => ?_)
                  · refine lv_iconst (v := (-1)) cx.1 cx.2.1 dL_isTold_294 (by decide) ?_
                    exact k_top (if_neg (by rw [c_25]; decide)).symm (hj295 _ _ hI)
                  · refine lv_aload_n cx.1 cx.2.1 dL_isTold_287 rfl (lv_at hl 10 rfl) ?_
                    refine lv_iload cx.1 cx.2.1 dL_isTold_288 (lv_at hl 1 rfl) ?_
                    refine lr_on cx hI hi dL_isTold_290 ?_
                    refine lv_goto (tgt := 295) cx.1 cx.2.1 dL_isTold_291 (by decide) ?_
                    exact k_top ((lO_row hi (seen_old c_25)).trans (if_pos c_25).symm) (hj295 _ _ hI)
              · have hI : KI D A (lw ad oa cb ca v (lO v) (lK (xp v) (xt v) (xq v) (xk v) (xl v) (xm v) (xc v)) (hw sa ca (hS v i k))) s.heap H locs := hI
                have hl : lv_has ls 13 [(11, .int (nI k)), (8, .int (nI i)), (3, .int (xRows v i + b2i (xSeen v (nI i)))), (4, .int (xShRows v i + b2i (xSh v (nI i)))), (5, .int (zBe v i + b2i (!decide (xp v = 0) && xBeh v (nI i)))), (6, .ref sa), (7, .int 1), (9, .int (b2i (xSeen v (nI i)))), (10, .int (b2i (xSh v (nI i)))), (0, .ref (ad 0)), (1, .ref oa), (2, .ref cb)] := hl
                refine lv_iload cx.1 cx.2.1 dL_isTold_162 (lv_at hl 0 rfl) ?_
                refine lv_iconst (v := 3) cx.1 cx.2.1 dL_isTold_164 (by decide) ?_
                refine lv_icmp_ge (tgt := 271) cx.1 cx.2.1 dL_isTold_165 (by decide) (fun h9 => absurd h9 (nI_ge hk (by decide))) (fun _ => ?_)
                refine lv_aload_n cx.1 cx.2.1 dL_isTold_168 rfl (lv_at hl 11 rfl) ?_
                refine lv_aload_n cx.1 cx.2.1 dL_isTold_169 rfl (lv_at hl 10 rfl) ?_
                refine lv_iload cx.1 cx.2.1 dL_isTold_170 (lv_at hl 1 rfl) ?_
                refine lr_on cx hI hi dL_isTold_172 ?_
                refine lv_iload cx.1 cx.2.1 dL_isTold_173 (lv_at hl 0 rfl) ?_
                refine lc_c 3 cx (hl.1.trans hml.symm) (kL_altered l D ca cb (lK (xp v) (xt v) (xq v) (xk v) (xl v) (xm v) (xc v)) ((lO v) i) (nI k)) hI wk_167 wk_165 wk_166 wk_0 ⟨by decide, by decide, by decide +kernel⟩ rfl ⟨rfl, rfl⟩ ⟨Nat.le_of_ble_eq_true rfl, Nat.le_of_ble_eq_true rfl⟩ (Nat.le_of_ble_eq_true rfl) dL_isTold_175 ⟨Nat.le_of_ble_eq_true rfl, Nat.le_of_ble_eq_true rfl⟩ rfl (fun H locs hI => ?_)
                refine k_top (y := xBro v (nI i) (nI k)) (lAlt_bro hi (hA i hi) (nI k)) ?_
                refine lv_istore (lv' := [(12, .int (xBro v (nI i) (nI k))), (11, .int (nI k)), (8, .int (nI i)), (3, .int (xRows v i + b2i (xSeen v (nI i)))), (4, .int (xShRows v i + b2i (xSh v (nI i)))), (5, .int (zBe v i + b2i (!decide (xp v = 0) && xBeh v (nI i)))), (6, .ref sa), (7, .int 1), (9, .int (b2i (xSeen v (nI i)))), (10, .int (b2i (xSh v (nI i)))), (0, .ref (ad 0)), (1, .ref oa), (2, .ref cb)]) cx.1 cx.2.1 dL_isTold_178 hl (by decide) rfl (fun ls hl => ?_)
                refine lv_aload cx.1 cx.2.1 dL_isTold_180 (lv_at hl 6 rfl) ?_
                refine lv_iload cx.1 cx.2.1 dL_isTold_182 (lv_at hl 1 rfl) ?_
                refine lv_dup2_11 cx.1 cx.2.1 dL_isTold_184 rfl rfl ?_
                refine lr_hn cx hI (by omega) dL_isTold_185 ?_
                refine lv_iload cx.1 cx.2.1 dL_isTold_186 (lv_at hl 9 rfl) ?_
                refine k_join (D := D) (A := A) 203 (lw ad oa cb ca v (lO v) (lK (xp v) (xt v) (xq v) (xk v) (xl v) (xm v) (xc v)) (hw sa ca (hS v i k))) [.int (zSu v k i), .int ((hS v i k) k), .int (nI k), .ref sa] (fun H locs hI => ?_) (fun hj203 => ?_)
                · refine lv_iadd cx.1 cx.2.1 dL_isTold_203 ?_
                  refine ls_hn cx hI (by omega) dL_isTold_204 (fun H locs hI => ?_)
                  refine lv_aload cx.1 cx.2.1 dL_isTold_205 (lv_at hl 6 rfl) ?_
                  refine lv_iconst (v := 3) cx.1 cx.2.1 dL_isTold_207 (by decide) ?_
                  refine lv_iload cx.1 cx.2.1 dL_isTold_208 (lv_at hl 1 rfl) ?_
                  refine lv_iadd cx.1 cx.2.1 dL_isTold_210 ?_
                  refine k_top (y := nI (k + 3)) (n3k k) ?_
                  refine lv_dup2_11 cx.1 cx.2.1 dL_isTold_211 rfl rfl ?_
                  refine lr_hn cx hI (by omega) dL_isTold_212 ?_
                  refine lv_aload_n cx.1 cx.2.1 dL_isTold_213 rfl (lv_at hl 12 rfl) ?_
                  refine lv_iconst (v := 0) cx.1 cx.2.1 dL_isTold_214 (by decide) ?_
                  refine lr_c cx hI (vp_in_nI (n := 0) (by decide) (by decide)) dL_isTold_215 ?_
                  refine k_top (y := xp v) rfl ?_
                  refine k_join (D := D) (A := A) 230 (lw ad oa cb ca v (lO v) (lK (xp v) (xt v) (xq v) (xk v) (xl v) (xm v) (xc v)) (hw sa ca (upd (hS v i k) k (((hS v i k) k) + (zSu v k i))))) [.int (zDu v (nI k) i), .int ((upd (hS v i k) k (((hS v i k) k) + (zSu v k i))) (k + 3)), .int (nI (k + 3)), .ref sa] (fun H locs hI => ?_) (fun hj230 => ?_)
                  · refine lv_iadd cx.1 cx.2.1 dL_isTold_230 ?_
                    refine ls_hn cx hI (by omega) dL_isTold_231 (fun H locs hI => ?_)
                    refine lv_iload cx.1 cx.2.1 dL_isTold_232 (lv_at hl 7 rfl) ?_
                    refine lv_if_eq (tgt := 262) cx.1 cx.2.1 dL_isTold_234 (by decide) (fun h9 => absurd h9 (by decide)) (fun _ => ?_)
                    refine lv_aload_n cx.1 cx.2.1 dL_isTold_237 rfl (lv_at hl 10 rfl) ?_
                    refine lv_iload cx.1 cx.2.1 dL_isTold_238 (lv_at hl 2 rfl) ?_
                    refine lv_iload cx.1 cx.2.1 dL_isTold_240 (lv_at hl 1 rfl) ?_
                    refine lc_i 2 cx (hl.1.trans hml.symm) (kS_shadow l D ca ad v (nI i) (nI k) (vp_in_nI hi (by decide)) (vp_in_nI hk (by decide))) hI wk_86 wk_83 wk_84 wk_85 ⟨rfl, by decide +kernel⟩ rfl ⟨rfl, rfl⟩ ⟨Nat.le_of_ble_eq_true rfl, Nat.le_of_ble_eq_true rfl⟩ (Nat.le_of_ble_eq_true rfl) dL_isTold_242 ⟨Nat.le_of_ble_eq_true rfl, Nat.le_of_ble_eq_true rfl⟩ rfl (fun H locs hI => ?_)
                    refine k_top (y := xC v k i) (by rw [kx hi, (k3n hk).1]) ?_
                    refine k_join (D := D) (A := A) 253 (lw ad oa cb ca v (lO v) (lK (xp v) (xt v) (xq v) (xk v) (xl v) (xm v) (xc v)) (hw sa ca (upd (upd (hS v i k) k (((hS v i k) k) + (zSu v k i))) (k + 3) (((upd (hS v i k) k (((hS v i k) k) + (zSu v k i))) (k + 3)) + (zDu v (nI k) i))))) [.int (b2i (xSh v (nI i)))] (fun H locs hI => ?_) (fun hj253 => ?_)
                    · refine lv_iload cx.1 cx.2.1 dL_isTold_253 (lv_at hl 9 rfl) ?_
                      refine lv_icmp_ne (tgt := 262) cx.1 cx.2.1 dL_isTold_255 (by decide) (fun h9 => absurd h9 (fun q => q rfl)) (fun _ => ?_)
                      refine lv_iconst (v := 1) cx.1 cx.2.1 dL_isTold_258 (by decide) ?_
                      refine lv_goto (tgt := 263) cx.1 cx.2.1 dL_isTold_259 (by decide) ?_
                      refine lv_istore (lv' := [(7, .int 1), (12, .int (xBro v (nI i) (nI k))), (11, .int (nI k)), (8, .int (nI i)), (3, .int (xRows v i + b2i (xSeen v (nI i)))), (4, .int (xShRows v i + b2i (xSh v (nI i)))), (5, .int (zBe v i + b2i (!decide (xp v = 0) && xBeh v (nI i)))), (6, .ref sa), (9, .int (b2i (xSeen v (nI i)))), (10, .int (b2i (xSh v (nI i)))), (0, .ref (ad 0)), (1, .ref oa), (2, .ref cb)]) cx.1 cx.2.1 dL_isTold_263 hl (by decide) rfl (fun ls hl => ?_)
                      refine lv_iinc (v := nI (k + 1)) (lv' := [(11, .int (nI (k + 1))), (7, .int 1), (12, .int (xBro v (nI i) (nI k))), (8, .int (nI i)), (3, .int (xRows v i + b2i (xSeen v (nI i)))), (4, .int (xShRows v i + b2i (xSh v (nI i)))), (5, .int (zBe v i + b2i (!decide (xp v = 0) && xBeh v (nI i)))), (6, .ref sa), (9, .int (b2i (xSeen v (nI i)))), (10, .int (b2i (xSh v (nI i)))), (0, .ref (ad 0)), (1, .ref oa), (2, .ref cb)]) cx.1 cx.2.1 dL_isTold_265 hl (k := 2) rfl (nI_1 k) (by decide) rfl (fun ls hl => ?_)
                      refine lv_goto (tgt := 162) cx.1 cx.2.1 dL_isTold_268 (by decide) ?_
                      refine ih _ _ _ ?_ ?_
                      · show KI D A (lw ad oa cb ca v (lO v) (lK (xp v) (xt v) (xq v) (xk v) (xl v) (xm v) (xc v)) (hw sa ca (hS v i (k + 1)))) s.heap _ _
                        rw [hS_step v hi hk]
                        exact hI
                      · show lv_has _ _ [(11, .int (nI (k + 1))), (8, .int (nI i)), (3, .int (xRows v i + b2i (xSeen v (nI i)))), (4, .int (xShRows v i + b2i (xSh v (nI i)))), (5, .int (zBe v i + b2i (!decide (xp v = 0) && xBeh v (nI i)))), (6, .ref sa), (7, .int 1), (9, .int (b2i (xSeen v (nI i)))), (10, .int (b2i (xSh v (nI i)))), (0, .ref (ad 0)), (1, .ref oa), (2, .ref cb)]
                        exact lv_sub hl [0, 3, 4, 5, 6, 7, 1, 8, 9, 10, 11, 12] rfl
                    ·
                      refine lv_if_lt (tgt := 252) cx.1 cx.2.1 dL_isTold_245 (by decide) (fun c_28 => ?_) (fun c_28 => ?_)
                      · refine lv_iconst (v := 0) cx.1 cx.2.1 dL_isTold_252 (by decide) ?_
                        exact k_top (congrArg b2i (l_sh_lt hi (hZ i hi) hk c_28)).symm (hj253 _ _ hI)
                      · refine lv_iconst (v := 1) cx.1 cx.2.1 dL_isTold_248 (by decide) ?_
                        refine lv_goto (tgt := 253) cx.1 cx.2.1 dL_isTold_249 (by decide) ?_
                        exact k_top (congrArg b2i (l_sh_ge hi (hZ i hi) hk c_28)).symm (hj253 _ _ hI)
                  ·
                    refine lv_if_eq (tgt := 224) cx.1 cx.2.1 dL_isTold_216 (by decide) (fun c_29 => ?_) (fun c_29 => ?_)
                    · refine lv_iconst (v := 0) cx.1 cx.2.1 dL_isTold_224 (by decide) ?_
                      refine lv_goto (tgt := 230) cx.1 cx.2.1 dL_isTold_225 (by decide) ?_
                      exact k_top (by first | exact du_0 c_29 | exact du_n hX.1.2.1 hi (hA i hi) c_29 c_29) (hj230 _ _ hI)
                    · refine lv_iload cx.1 cx.2.1 dL_isTold_219 (lv_at hl 0 rfl) ?_
                      refine lv_if_ge (tgt := 228) cx.1 cx.2.1 dL_isTold_221 (by decide) (fun c_30 => ?_) (fun c_30 => ?_)
                      · refine lv_iload cx.1 cx.2.1 dL_isTold_228 (lv_at hl 0 rfl) ?_
                        exact k_top (du_p c_29 c_30) (hj230 _ _ hI)
                      · refine lv_iconst (v := 0) cx.1 cx.2.1 dL_isTold_224 (by decide) ?_
                        refine lv_goto (tgt := 230) cx.1 cx.2.1 dL_isTold_225 (by decide) ?_
                        exact k_top (by first | exact du_0 c_30 | exact du_n hX.1.2.1 hi (hA i hi) c_29 c_30) (hj230 _ _ hI)
                ·
                  refine kb_eq (tgt := 202) cx dL_isTold_188 (by decide) (fun c_31 => ?_) (fun c_31 => ?_)
                  · refine lv_iconst (v := 0) cx.1 cx.2.1 dL_isTold_202 (by decide) ?_
                    exact k_top (su_f c_31) (hj203 _ _ hI)
                  · refine lv_aload_n cx.1 cx.2.1 dL_isTold_191 rfl (lv_at hl 10 rfl) ?_
                    refine lv_iload cx.1 cx.2.1 dL_isTold_192 (lv_at hl 2 rfl) ?_
                    refine lv_iload cx.1 cx.2.1 dL_isTold_194 (lv_at hl 1 rfl) ?_
                    refine lc_i 2 cx (hl.1.trans hml.symm) (kS_shadow l D ca ad v (nI i) (nI k) (vp_in_nI hi (by decide)) (vp_in_nI hk (by decide))) hI wk_86 wk_83 wk_84 wk_85 ⟨rfl, by decide +kernel⟩ rfl ⟨rfl, rfl⟩ ⟨Nat.le_of_ble_eq_true rfl, Nat.le_of_ble_eq_true rfl⟩ (Nat.le_of_ble_eq_true rfl) dL_isTold_196 ⟨Nat.le_of_ble_eq_true rfl, Nat.le_of_ble_eq_true rfl⟩ rfl (fun H locs hI => ?_)
                    refine k_top (y := xC v k i) (by rw [kx hi, (k3n hk).1]) ?_
                    refine lv_goto (tgt := 203) cx.1 cx.2.1 dL_isTold_199 (by decide) ?_
                    exact k_top (su_t c_31) (hj203 _ _ hI)
            ·
              refine lv_if_eq (tgt := 151) cx.1 cx.2.1 dL_isTold_137 (by decide) (fun c_32 => ?_) (fun c_32 => ?_)
              · refine lv_iconst (v := 0) cx.1 cx.2.1 dL_isTold_151 (by decide) ?_
                refine lv_goto (tgt := 156) cx.1 cx.2.1 dL_isTold_152 (by decide) ?_
                exact k_top (by first | exact beh_1 c_32 | exact beh_2 c_32) (hj156 _ _ hI)
              · refine lv_aload_n cx.1 cx.2.1 dL_isTold_140 rfl (lv_at hl 8 rfl) ?_
                refine lv_aload_n cx.1 cx.2.1 dL_isTold_141 rfl (lv_at hl 9 rfl) ?_
                refine lv_aload_n cx.1 cx.2.1 dL_isTold_142 rfl (lv_at hl 10 rfl) ?_
                refine lv_iload cx.1 cx.2.1 dL_isTold_143 (lv_at hl 4 rfl) ?_
                refine lc_w 4 cx (hl.1.trans hml.symm) (kL_isEven l D ca ad oa cb v (lO v) (xp v) (xt v) (xq v) (xk v) (xl v) (xm v) (xc v) hi (hA i hi) rfl rfl rfl) hI wk_388 wk_386 wk_387 wk_0 ⟨by decide, by decide, by decide +kernel⟩ rfl ⟨rfl, rfl⟩ ⟨Nat.le_of_ble_eq_true rfl, Nat.le_of_ble_eq_true rfl⟩ (Nat.le_of_ble_eq_true rfl) dL_isTold_145 ⟨Nat.le_of_ble_eq_true rfl, Nat.le_of_ble_eq_true rfl⟩ rfl (fun H locs hI => ?_)
                refine kb_eq (tgt := 155) cx dL_isTold_148 (by decide) (fun c_33 => ?_) (fun c_33 => ?_)
                · refine lv_iconst (v := 1) cx.1 cx.2.1 dL_isTold_155 (by decide) ?_
                  exact k_top (beh_3 c_32 c_33) (hj156 _ _ hI)
                · refine lv_iconst (v := 0) cx.1 cx.2.1 dL_isTold_151 (by decide) ?_
                  refine lv_goto (tgt := 156) cx.1 cx.2.1 dL_isTold_152 (by decide) ?_
                  exact k_top (by first | exact beh_1 c_33 | exact beh_2 c_33) (hj156 _ _ hI)
          ·
            refine kb_eq (tgt := 128) cx dL_isTold_121 (by decide) (fun c_34 => ?_) (fun c_34 => ?_)
            · refine lv_iconst (v := 0) cx.1 cx.2.1 dL_isTold_128 (by decide) ?_
              exact k_top (congrArg b2i c_34).symm (hj129 _ _ hI)
            · refine lv_iconst (v := 1) cx.1 cx.2.1 dL_isTold_124 (by decide) ?_
              refine lv_goto (tgt := 129) cx.1 cx.2.1 dL_isTold_125 (by decide) ?_
              exact k_top (congrArg b2i c_34).symm (hj129 _ _ hI)
        ·
          refine kb_eq (tgt := 114) cx dL_isTold_107 (by decide) (fun c_35 => ?_) (fun c_35 => ?_)
          · refine lv_iconst (v := 0) cx.1 cx.2.1 dL_isTold_114 (by decide) ?_
            exact k_top (congrArg b2i c_35).symm (hj115 _ _ hI)
          · refine lv_iconst (v := 1) cx.1 cx.2.1 dL_isTold_110 (by decide) ?_
            refine lv_goto (tgt := 115) cx.1 cx.2.1 dL_isTold_111 (by decide) ?_
            exact k_top (congrArg b2i c_35).symm (hj115 _ _ hI)
      ·
        refine lv_if_lt (tgt := 101) cx.1 cx.2.1 dL_isTold_94 (by decide) (fun c_36 => ?_) (fun c_36 => ?_)
        · refine lv_iconst (v := 0) cx.1 cx.2.1 dL_isTold_101 (by decide) ?_
          exact k_top (congrArg b2i (l_sh_lt hi (hZ i hi) (by decide) c_36)).symm (hj102 _ _ hI)
        · refine lv_iconst (v := 1) cx.1 cx.2.1 dL_isTold_97 (by decide) ?_
          refine lv_goto (tgt := 102) cx.1 cx.2.1 dL_isTold_98 (by decide) ?_
          exact k_top (congrArg b2i (l_sh_ge hi (hZ i hi) (by decide) c_36)).symm (hj102 _ _ hI)
  ·
    refine lv_if_ne (tgt := 38) cx.1 cx.2.1 dL_isTold_31 (by decide) (fun c_37 => ?_) (fun c_37 => ?_)
    · refine lv_aload_n cx.1 cx.2.1 dL_isTold_38 rfl (lv_at hl 6 rfl) ?_
      refine lv_iconst (v := 5) cx.1 cx.2.1 dL_isTold_39 (by decide) ?_
      refine lr_c cx hI (vp_in_nI (n := 5) (by decide) (by decide)) dL_isTold_40 ?_
      refine k_top (y := xm v) rfl ?_
      exact k_top (by simp [c_37]) (hj41 _ _ hI)
    · refine lv_iconst (v := (-1)) cx.1 cx.2.1 dL_isTold_34 (by decide) ?_
      refine lv_goto (tgt := 41) cx.1 cx.2.1 dL_isTold_35 (by decide) ?_
      exact k_top (by simp [c_37]) (hj41 _ _ hI)
end
section
/-! MINE: the law's asking: what the class throws comes back as a number. -/
def zCd (c1 c2 c3 c4 : Int32) (F : Nat) (r : Int32) : Int32 := if F = 0 then r else if F = 1 then c1 else if F = 2 then c2 else if F = 3 then c3 else c4
theorem zCd_0 (c1 c2 c3 c4 : Int32) {F : Nat} (h : F = 0) (r : Int32) : zCd c1 c2 c3 c4 F r = r := if_pos h
theorem zCd_1 (c1 c2 c3 c4 : Int32) {F : Nat} (h : F = 1) (r : Int32) : zCd c1 c2 c3 c4 F r = c1 := by subst h; rfl
theorem zCd_2 (c1 c2 c3 c4 : Int32) {F : Nat} (h : F = 2) (r : Int32) : zCd c1 c2 c3 c4 F r = c2 := by subst h; rfl
theorem zCd_3 (c1 c2 c3 c4 : Int32) {F : Nat} (h : F = 3) (r : Int32) : zCd c1 c2 c3 c4 F r = c3 := by subst h; rfl
theorem zCd_4 (c1 c2 c3 c4 : Int32) {F : Nat} (h : F = 4) (r : Int32) : zCd c1 c2 c3 c4 F r = c4 := by subst h; rfl
theorem kSt_0 {F : Nat} (h : F = 0) (v v' : XS) : kSt F v v' = v' := if_pos h
theorem kSt_n {F : Nat} (h : F ≠ 0) (v v' : XS) : kSt F v v' = v := if_neg h
def CA (l : Launch) (D : va_G) (ca : Nat → ClassId) (ad : Nat → Nat) (v : XS) (what key a b r : Int32) (v' : XS) : Prop := CH l yL_asks cL_asks 6 (some .int) [(0, 101, 102, 54), (0, 101, 107, 56), (0, 101, 112, 58)] (KR1 8 176) D ca (xw ad ca v) [.ref (ad 0), .int what, .int key, .int a, .int b] (some (.int r)) (xw ad ca v')
theorem kl_nc {A : Nat → Prop} {s : State} (hE : KE A s s.heap) {E F : String} (h1 : E ∈ kexs) (h2 : F ∈ kexs) (h : E ≠ F) : va_Nc E F s := hE.2.2.2.2 E h1 F h2 h
theorem kl_ys {A : Nat → Prop} {s : State} {args : Array Value} (hE : KE A s s.heap) {E : String} (h1 : Cond.castable E E ∈ kws) : (Cond.castable E E).before args s = true := va_Nw.use rfl (hE.2.2.2.1 _ h1)
set_option maxHeartbeats 4000000 in
set_option maxRecDepth 100000 in
theorem kL_writes0 (l : Launch) (D : va_G) (ca : Nat → ClassId) (ad : Nat → Nat) (v : XS) (key a b : Int32) (h0 : ¬ xc v < 0) (hlS : l.stackTraces = false) : CX l yL_writes cL_writes 5 (some .int) (KR1 7 152) D ca (xw ad ca v) [.ref (ad 0), .int 0, .int key, .int a, .int b] (xfInsert v key a b = 0) (some (.int 0)) (xw ad ca (xFollow (xPut v key a b) key)) (fun E => (xfInsert v key a b = 1 ∧ E = "java/lang/IndexOutOfBoundsException") ∨ (xfInsert v key a b = 2 ∧ E = "java/lang/IllegalArgumentException") ∨ (xfInsert v key a b = 3 ∧ E = "java/lang/IllegalStateException")) := by
  refine CX.of (by decide) (Nat.le_of_ble_eq_true rfl) ?_
  intro p e s m below meth c A ls cx hml hr hlk htab hE hI hl
  have hl : lv_has ls 5 [(0, .ref (ad 0)), (1, .int 0), (2, .int key), (3, .int a), (4, .int b)] := hl
  refine lv_iload_n cx.1 cx.2.1 dL_writes_0 rfl (lv_at hl 1 rfl) ?_
  refine lv_if_ne (tgt := 15) cx.1 cx.2.1 dL_writes_1 (by decide) (fun h9 => absurd (by decide) h9) (fun _ => ?_)
  refine lv_aload_n cx.1 cx.2.1 dL_writes_4 rfl (lv_at hl 0 rfl) ?_
  refine lv_iload_n cx.1 cx.2.1 dL_writes_5 rfl (lv_at hl 2 rfl) ?_
  refine lv_iload_n cx.1 cx.2.1 dL_writes_6 rfl (lv_at hl 3 rfl) ?_
  refine lv_iload cx.1 cx.2.1 dL_writes_7 (lv_at hl 4 rfl) ?_
  refine k_callX (C := RX0) (T := TX0) (N := 12) (ci := 0) 3 [] [] cx hE (hl.1.trans hml.symm) (kX0_insert l D ca ad v key a b h0 hlS) hI (kn0 _) (kn0 _) xw_ad rfl rfl wk_223 wk_220 wk_221 wk_222 wk_1 ⟨rfl, by decide, by decide, by decide +kernel⟩ rfl ⟨rfl, rfl⟩ ⟨Nat.le_of_ble_eq_true rfl, Nat.le_of_ble_eq_true rfl⟩ (Nat.le_of_ble_eq_true rfl) dL_writes_9 ⟨Nat.le_of_ble_eq_true rfl, Nat.le_of_ble_eq_true rfl⟩ rfl (fun E ce q9 H locs hψ hI hq hv hcl => ?_) (fun hφ H locs hI => ?_)
  · exact kx_out htab hlk hI hψ hq hv hcl (Nat.le_of_ble_eq_true rfl) (Nat.le_of_ble_eq_true rfl)
  · refine lv_goto (tgt := 37) cx.1 cx.2.1 dL_writes_12 (by decide) ?_
    refine lv_iconst (v := 0) cx.1 cx.2.1 dL_writes_37 (by decide) ?_
    exact ke_x hφ (ke_i cx hr hlk hI (Nat.le_of_ble_eq_true rfl) (Nat.le_of_ble_eq_true rfl) dL_writes_38 rfl rfl)
set_option maxHeartbeats 4000000 in
set_option maxRecDepth 100000 in
theorem kL_asks0 (l : Launch) (D : va_G) (ca : Nat → ClassId) (ad : Nat → Nat) (v : XS) (key a b : Int32) (h0 : ¬ xc v < 0) (hne : xfInsert v key a b ≠ 1) (hlS : l.stackTraces = false) : CA l D ca ad v 0 key a b (zCd 0 (-9) (-8) 0 (xfInsert v key a b) (0)) (kSt (xfInsert v key a b) v (xFollow (xPut v key a b) key)) := by
  refine CH.of (by decide) (Nat.le_of_ble_eq_true rfl) ?_
  intro p e s m below meth c A ls cx hml hr hlk htab hE hI hl
  have hl : lv_has ls 6 [(0, .ref (ad 0)), (1, .int 0), (2, .int key), (3, .int a), (4, .int b)] := hl
  refine lv_iload_n cx.1 cx.2.1 dL_asks_0 rfl (lv_at hl 1 rfl) ?_
  refine lv_iconst (v := 3) cx.1 cx.2.1 dL_asks_1 (by decide) ?_
  refine lv_icmp_ge (tgt := 17) cx.1 cx.2.1 dL_asks_2 (by decide) (fun h9 => absurd h9 (by decide)) (fun _ => ?_)
  refine lv_aload_n cx.1 cx.2.1 dL_asks_5 rfl (lv_at hl 0 rfl) ?_
  refine lv_iload_n cx.1 cx.2.1 dL_asks_6 rfl (lv_at hl 1 rfl) ?_
  refine lv_iload_n cx.1 cx.2.1 dL_asks_7 rfl (lv_at hl 2 rfl) ?_
  refine lv_iload_n cx.1 cx.2.1 dL_asks_8 rfl (lv_at hl 3 rfl) ?_
  refine lv_iload cx.1 cx.2.1 dL_asks_9 (lv_at hl 4 rfl) ?_
  refine k_callXS 5 cx hE (hl.1.trans hml.symm) (kL_writes0 l D ca ad v key a b h0 hlS) hI xw_ad wk_219 wk_217 wk_218 wk_0 ⟨by decide, by decide, by decide +kernel⟩ rfl ⟨rfl, rfl⟩ ⟨Nat.le_of_ble_eq_true rfl, Nat.le_of_ble_eq_true rfl⟩ (Nat.le_of_ble_eq_true rfl) dL_asks_11 ⟨Nat.le_of_ble_eq_true rfl, Nat.le_of_ble_eq_true rfl⟩ rfl (fun E ce q9 H locs hψ hI hq hv hcl => ?_) (fun hφ H locs hI => ?_)
  · rcases hψ with ⟨hf, rfl⟩ | ⟨hf, rfl⟩ | ⟨hf, rfl⟩
    · exact absurd hf hne
    · refine vx_catch (E := "java/lang/IllegalArgumentException") (name := "java/lang/IllegalArgumentException") cx.2.2.1 [] ⟨0, 101, 102, 54⟩ [⟨0, 101, 107, 56⟩, ⟨0, 101, 112, 58⟩] (htab.trans rfl) (fun z hz => nomatch hz) (by decide) (by decide) (cx.2.2.2.1 _ wk_214) (kl_ys hE (by decide)) hq hv hcl ?_
      refine lv_astore (lv' := [(5, .ref q9), (0, .ref (ad 0)), (1, .int 0), (2, .int key), (3, .int a), (4, .int b)]) cx.1 cx.2.1 dL_asks_102 hl (by decide) rfl (fun ls hl => ?_)
      refine lv_bipush (v := (-9)) cx.1 cx.2.1 dL_asks_104 (by decide) ?_
      exact ke_i cx hr hlk hI (Nat.le_refl _) (Nat.le_refl _) dL_asks_106 (congrArg (fun z => some (Value.int z)) (zCd_2 _ _ _ _ hf _).symm) (congrArg (xw ad ca) (kSt_n (by rw [hf]; decide) _ _).symm)
    · refine vx_catch (E := "java/lang/IllegalStateException") (name := "java/lang/IllegalStateException") cx.2.2.1 [⟨0, 101, 102, 54⟩] ⟨0, 101, 107, 56⟩ [⟨0, 101, 112, 58⟩] (htab.trans rfl) (fun z hz => by simp only [List.mem_cons, List.not_mem_nil, or_false] at hz; subst hz; exact Or.inr ⟨by decide, "java/lang/IllegalArgumentException", cx.2.2.2.1 _ wk_214, kl_nc hE (by decide) (by decide) (by decide)⟩) (by decide) (by decide) (cx.2.2.2.1 _ wk_215) (kl_ys hE (by decide)) hq hv hcl ?_
      refine lv_astore (lv' := [(5, .ref q9), (0, .ref (ad 0)), (1, .int 0), (2, .int key), (3, .int a), (4, .int b)]) cx.1 cx.2.1 dL_asks_107 hl (by decide) rfl (fun ls hl => ?_)
      refine lv_bipush (v := (-8)) cx.1 cx.2.1 dL_asks_109 (by decide) ?_
      exact ke_i cx hr hlk hI (Nat.le_refl _) (Nat.le_refl _) dL_asks_111 (congrArg (fun z => some (Value.int z)) (zCd_3 _ _ _ _ hf _).symm) (congrArg (xw ad ca) (kSt_n (by rw [hf]; decide) _ _).symm)
  · refine lv_goto (tgt := 101) cx.1 cx.2.1 dL_asks_14 (by decide) ?_
    exact ke_i cx hr hlk hI (Nat.le_refl _) (Nat.le_refl _) dL_asks_101 (congrArg (fun z => some (Value.int z)) (zCd_0 _ _ _ _ hφ _).symm) (congrArg (xw ad ca) (kSt_0 hφ _ _).symm)
set_option maxHeartbeats 4000000 in
set_option maxRecDepth 100000 in
theorem kL_writes1 (l : Launch) (D : va_G) (ca : Nat → ClassId) (ad : Nat → Nat) (v : XS) (key a b : Int32) (h0 : ¬ xc v < 0) (hlS : l.stackTraces = false) : CX l yL_writes cL_writes 5 (some .int) (KR1 7 152) D ca (xw ad ca v) [.ref (ad 0), .int 1, .int key, .int a, .int b] (xfUpdate v key a b = 0) (some (.int 0)) (xw ad ca (xFollow (xPut v key a b) key)) (fun E => (xfUpdate v key a b = 1 ∧ E = "java/lang/IndexOutOfBoundsException") ∨ (xfUpdate v key a b = 2 ∧ E = "java/lang/IllegalArgumentException") ∨ (xfUpdate v key a b = 3 ∧ E = "java/util/NoSuchElementException")) := by
  refine CX.of (by decide) (Nat.le_of_ble_eq_true rfl) ?_
  intro p e s m below meth c A ls cx hml hr hlk htab hE hI hl
  have hl : lv_has ls 5 [(0, .ref (ad 0)), (1, .int 1), (2, .int key), (3, .int a), (4, .int b)] := hl
  refine lv_iload_n cx.1 cx.2.1 dL_writes_0 rfl (lv_at hl 1 rfl) ?_
  refine lv_if_ne (tgt := 15) cx.1 cx.2.1 dL_writes_1 (by decide) (fun _ => ?_) (fun h9 => absurd h9 (by decide))
  refine lv_iload_n cx.1 cx.2.1 dL_writes_15 rfl (lv_at hl 1 rfl) ?_
  refine lv_iconst (v := 1) cx.1 cx.2.1 dL_writes_16 (by decide) ?_
  refine lv_icmp_ne (tgt := 31) cx.1 cx.2.1 dL_writes_17 (by decide) (fun h9 => absurd (by decide) h9) (fun _ => ?_)
  refine lv_aload_n cx.1 cx.2.1 dL_writes_20 rfl (lv_at hl 0 rfl) ?_
  refine lv_iload_n cx.1 cx.2.1 dL_writes_21 rfl (lv_at hl 2 rfl) ?_
  refine lv_iload_n cx.1 cx.2.1 dL_writes_22 rfl (lv_at hl 3 rfl) ?_
  refine lv_iload cx.1 cx.2.1 dL_writes_23 (lv_at hl 4 rfl) ?_
  refine k_callX (C := RX0) (T := TX0) (N := 12) (ci := 0) 3 [] [] cx hE (hl.1.trans hml.symm) (kX0_update l D ca ad v key a b h0 hlS) hI (kn0 _) (kn0 _) xw_ad rfl rfl wk_284 wk_281 wk_282 wk_283 wk_1 ⟨rfl, by decide, by decide, by decide +kernel⟩ rfl ⟨rfl, rfl⟩ ⟨Nat.le_of_ble_eq_true rfl, Nat.le_of_ble_eq_true rfl⟩ (Nat.le_of_ble_eq_true rfl) dL_writes_25 ⟨Nat.le_of_ble_eq_true rfl, Nat.le_of_ble_eq_true rfl⟩ rfl (fun E ce q9 H locs hψ hI hq hv hcl => ?_) (fun hφ H locs hI => ?_)
  · exact kx_out htab hlk hI hψ hq hv hcl (Nat.le_of_ble_eq_true rfl) (Nat.le_of_ble_eq_true rfl)
  · refine lv_goto (tgt := 37) cx.1 cx.2.1 dL_writes_28 (by decide) ?_
    refine lv_iconst (v := 0) cx.1 cx.2.1 dL_writes_37 (by decide) ?_
    exact ke_x hφ (ke_i cx hr hlk hI (Nat.le_of_ble_eq_true rfl) (Nat.le_of_ble_eq_true rfl) dL_writes_38 rfl rfl)
set_option maxHeartbeats 4000000 in
set_option maxRecDepth 100000 in
theorem kL_asks1 (l : Launch) (D : va_G) (ca : Nat → ClassId) (ad : Nat → Nat) (v : XS) (key a b : Int32) (h0 : ¬ xc v < 0) (hne : xfUpdate v key a b ≠ 1) (hlS : l.stackTraces = false) : CA l D ca ad v 1 key a b (zCd 0 (-9) (-10) 0 (xfUpdate v key a b) (0)) (kSt (xfUpdate v key a b) v (xFollow (xPut v key a b) key)) := by
  refine CH.of (by decide) (Nat.le_of_ble_eq_true rfl) ?_
  intro p e s m below meth c A ls cx hml hr hlk htab hE hI hl
  have hl : lv_has ls 6 [(0, .ref (ad 0)), (1, .int 1), (2, .int key), (3, .int a), (4, .int b)] := hl
  refine lv_iload_n cx.1 cx.2.1 dL_asks_0 rfl (lv_at hl 1 rfl) ?_
  refine lv_iconst (v := 3) cx.1 cx.2.1 dL_asks_1 (by decide) ?_
  refine lv_icmp_ge (tgt := 17) cx.1 cx.2.1 dL_asks_2 (by decide) (fun h9 => absurd h9 (by decide)) (fun _ => ?_)
  refine lv_aload_n cx.1 cx.2.1 dL_asks_5 rfl (lv_at hl 0 rfl) ?_
  refine lv_iload_n cx.1 cx.2.1 dL_asks_6 rfl (lv_at hl 1 rfl) ?_
  refine lv_iload_n cx.1 cx.2.1 dL_asks_7 rfl (lv_at hl 2 rfl) ?_
  refine lv_iload_n cx.1 cx.2.1 dL_asks_8 rfl (lv_at hl 3 rfl) ?_
  refine lv_iload cx.1 cx.2.1 dL_asks_9 (lv_at hl 4 rfl) ?_
  refine k_callXS 5 cx hE (hl.1.trans hml.symm) (kL_writes1 l D ca ad v key a b h0 hlS) hI xw_ad wk_219 wk_217 wk_218 wk_0 ⟨by decide, by decide, by decide +kernel⟩ rfl ⟨rfl, rfl⟩ ⟨Nat.le_of_ble_eq_true rfl, Nat.le_of_ble_eq_true rfl⟩ (Nat.le_of_ble_eq_true rfl) dL_asks_11 ⟨Nat.le_of_ble_eq_true rfl, Nat.le_of_ble_eq_true rfl⟩ rfl (fun E ce q9 H locs hψ hI hq hv hcl => ?_) (fun hφ H locs hI => ?_)
  · rcases hψ with ⟨hf, rfl⟩ | ⟨hf, rfl⟩ | ⟨hf, rfl⟩
    · exact absurd hf hne
    · refine vx_catch (E := "java/lang/IllegalArgumentException") (name := "java/lang/IllegalArgumentException") cx.2.2.1 [] ⟨0, 101, 102, 54⟩ [⟨0, 101, 107, 56⟩, ⟨0, 101, 112, 58⟩] (htab.trans rfl) (fun z hz => nomatch hz) (by decide) (by decide) (cx.2.2.2.1 _ wk_214) (kl_ys hE (by decide)) hq hv hcl ?_
      refine lv_astore (lv' := [(5, .ref q9), (0, .ref (ad 0)), (1, .int 1), (2, .int key), (3, .int a), (4, .int b)]) cx.1 cx.2.1 dL_asks_102 hl (by decide) rfl (fun ls hl => ?_)
      refine lv_bipush (v := (-9)) cx.1 cx.2.1 dL_asks_104 (by decide) ?_
      exact ke_i cx hr hlk hI (Nat.le_refl _) (Nat.le_refl _) dL_asks_106 (congrArg (fun z => some (Value.int z)) (zCd_2 _ _ _ _ hf _).symm) (congrArg (xw ad ca) (kSt_n (by rw [hf]; decide) _ _).symm)
    · refine vx_catch (E := "java/util/NoSuchElementException") (name := "java/util/NoSuchElementException") cx.2.2.1 [⟨0, 101, 102, 54⟩, ⟨0, 101, 107, 56⟩] ⟨0, 101, 112, 58⟩ [] (htab.trans rfl) (fun z hz => by simp only [List.mem_cons, List.not_mem_nil, or_false] at hz; rcases hz with rfl | rfl <;> first | (exact Or.inr ⟨by decide, "java/lang/IllegalArgumentException", cx.2.2.2.1 _ wk_214, kl_nc hE (by decide) (by decide) (by decide)⟩) | (exact Or.inr ⟨by decide, "java/lang/IllegalStateException", cx.2.2.2.1 _ wk_215, kl_nc hE (by decide) (by decide) (by decide)⟩)) (by decide) (by decide) (cx.2.2.2.1 _ wk_216) (kl_ys hE (by decide)) hq hv hcl ?_
      refine lv_astore (lv' := [(5, .ref q9), (0, .ref (ad 0)), (1, .int 1), (2, .int key), (3, .int a), (4, .int b)]) cx.1 cx.2.1 dL_asks_112 hl (by decide) rfl (fun ls hl => ?_)
      refine lv_bipush (v := (-10)) cx.1 cx.2.1 dL_asks_114 (by decide) ?_
      exact ke_i cx hr hlk hI (Nat.le_refl _) (Nat.le_refl _) dL_asks_116 (congrArg (fun z => some (Value.int z)) (zCd_3 _ _ _ _ hf _).symm) (congrArg (xw ad ca) (kSt_n (by rw [hf]; decide) _ _).symm)
  · refine lv_goto (tgt := 101) cx.1 cx.2.1 dL_asks_14 (by decide) ?_
    exact ke_i cx hr hlk hI (Nat.le_refl _) (Nat.le_refl _) dL_asks_101 (congrArg (fun z => some (Value.int z)) (zCd_0 _ _ _ _ hφ _).symm) (congrArg (xw ad ca) (kSt_0 hφ _ _).symm)
set_option maxHeartbeats 4000000 in
set_option maxRecDepth 100000 in
theorem kL_writes2 (l : Launch) (D : va_G) (ca : Nat → ClassId) (ad : Nat → Nat) (v : XS) (key a b : Int32) (h0 : ¬ xc v < 0) (hlS : l.stackTraces = false) : CX l yL_writes cL_writes 5 (some .int) (KR1 7 152) D ca (xw ad ca v) [.ref (ad 0), .int 2, .int key, .int a, .int b] (xfRekey v key a = 0) (some (.int 0)) (xw ad ca (xRekey v key a)) (fun E => (xfRekey v key a = 1 ∧ E = "java/lang/IndexOutOfBoundsException") ∨ (xfRekey v key a = 2 ∧ E = "java/lang/IllegalArgumentException") ∨ (xfRekey v key a = 3 ∧ E = "java/util/NoSuchElementException") ∨ (xfRekey v key a = 4 ∧ E = "java/lang/IllegalStateException")) := by
  refine CX.of (by decide) (Nat.le_of_ble_eq_true rfl) ?_
  intro p e s m below meth c A ls cx hml hr hlk htab hE hI hl
  have hl : lv_has ls 5 [(0, .ref (ad 0)), (1, .int 2), (2, .int key), (3, .int a), (4, .int b)] := hl
  refine lv_iload_n cx.1 cx.2.1 dL_writes_0 rfl (lv_at hl 1 rfl) ?_
  refine lv_if_ne (tgt := 15) cx.1 cx.2.1 dL_writes_1 (by decide) (fun _ => ?_) (fun h9 => absurd h9 (by decide))
  refine lv_iload_n cx.1 cx.2.1 dL_writes_15 rfl (lv_at hl 1 rfl) ?_
  refine lv_iconst (v := 1) cx.1 cx.2.1 dL_writes_16 (by decide) ?_
  refine lv_icmp_ne (tgt := 31) cx.1 cx.2.1 dL_writes_17 (by decide) (fun _ => ?_) (fun h9 => absurd h9 (by decide))
  refine lv_aload_n cx.1 cx.2.1 dL_writes_31 rfl (lv_at hl 0 rfl) ?_
  refine lv_iload_n cx.1 cx.2.1 dL_writes_32 rfl (lv_at hl 2 rfl) ?_
  refine lv_iload_n cx.1 cx.2.1 dL_writes_33 rfl (lv_at hl 3 rfl) ?_
  refine k_callX (C := RX0) (T := TX0) (N := 12) (ci := 0) 2 [] [] cx hE (hl.1.trans hml.symm) (kX0_rekey l D ca ad v key a h0 hlS) hI (kn0 _) (kn0 _) xw_ad rfl rfl wk_304 wk_301 wk_302 wk_303 wk_1 ⟨rfl, by decide, by decide, by decide +kernel⟩ rfl ⟨rfl, rfl⟩ ⟨Nat.le_of_ble_eq_true rfl, Nat.le_of_ble_eq_true rfl⟩ (Nat.le_of_ble_eq_true rfl) dL_writes_34 ⟨Nat.le_of_ble_eq_true rfl, Nat.le_of_ble_eq_true rfl⟩ rfl (fun E ce q9 H locs hψ hI hq hv hcl => ?_) (fun hφ H locs hI => ?_)
  · exact kx_out htab hlk hI hψ hq hv hcl (Nat.le_of_ble_eq_true rfl) (Nat.le_of_ble_eq_true rfl)
  · refine lv_iconst (v := 0) cx.1 cx.2.1 dL_writes_37 (by decide) ?_
    exact ke_x hφ (ke_i cx hr hlk hI (Nat.le_of_ble_eq_true rfl) (Nat.le_of_ble_eq_true rfl) dL_writes_38 rfl rfl)
set_option maxHeartbeats 4000000 in
set_option maxRecDepth 100000 in
theorem kL_asks2 (l : Launch) (D : va_G) (ca : Nat → ClassId) (ad : Nat → Nat) (v : XS) (key a b : Int32) (h0 : ¬ xc v < 0) (hne : xfRekey v key a ≠ 1) (hlS : l.stackTraces = false) : CA l D ca ad v 2 key a b (zCd 0 (-9) (-10) (-8) (xfRekey v key a) (0)) (kSt (xfRekey v key a) v (xRekey v key a)) := by
  refine CH.of (by decide) (Nat.le_of_ble_eq_true rfl) ?_
  intro p e s m below meth c A ls cx hml hr hlk htab hE hI hl
  have hl : lv_has ls 6 [(0, .ref (ad 0)), (1, .int 2), (2, .int key), (3, .int a), (4, .int b)] := hl
  refine lv_iload_n cx.1 cx.2.1 dL_asks_0 rfl (lv_at hl 1 rfl) ?_
  refine lv_iconst (v := 3) cx.1 cx.2.1 dL_asks_1 (by decide) ?_
  refine lv_icmp_ge (tgt := 17) cx.1 cx.2.1 dL_asks_2 (by decide) (fun h9 => absurd h9 (by decide)) (fun _ => ?_)
  refine lv_aload_n cx.1 cx.2.1 dL_asks_5 rfl (lv_at hl 0 rfl) ?_
  refine lv_iload_n cx.1 cx.2.1 dL_asks_6 rfl (lv_at hl 1 rfl) ?_
  refine lv_iload_n cx.1 cx.2.1 dL_asks_7 rfl (lv_at hl 2 rfl) ?_
  refine lv_iload_n cx.1 cx.2.1 dL_asks_8 rfl (lv_at hl 3 rfl) ?_
  refine lv_iload cx.1 cx.2.1 dL_asks_9 (lv_at hl 4 rfl) ?_
  refine k_callXS 5 cx hE (hl.1.trans hml.symm) (kL_writes2 l D ca ad v key a b h0 hlS) hI xw_ad wk_219 wk_217 wk_218 wk_0 ⟨by decide, by decide, by decide +kernel⟩ rfl ⟨rfl, rfl⟩ ⟨Nat.le_of_ble_eq_true rfl, Nat.le_of_ble_eq_true rfl⟩ (Nat.le_of_ble_eq_true rfl) dL_asks_11 ⟨Nat.le_of_ble_eq_true rfl, Nat.le_of_ble_eq_true rfl⟩ rfl (fun E ce q9 H locs hψ hI hq hv hcl => ?_) (fun hφ H locs hI => ?_)
  · rcases hψ with ⟨hf, rfl⟩ | ⟨hf, rfl⟩ | ⟨hf, rfl⟩ | ⟨hf, rfl⟩
    · exact absurd hf hne
    · refine vx_catch (E := "java/lang/IllegalArgumentException") (name := "java/lang/IllegalArgumentException") cx.2.2.1 [] ⟨0, 101, 102, 54⟩ [⟨0, 101, 107, 56⟩, ⟨0, 101, 112, 58⟩] (htab.trans rfl) (fun z hz => nomatch hz) (by decide) (by decide) (cx.2.2.2.1 _ wk_214) (kl_ys hE (by decide)) hq hv hcl ?_
      refine lv_astore (lv' := [(5, .ref q9), (0, .ref (ad 0)), (1, .int 2), (2, .int key), (3, .int a), (4, .int b)]) cx.1 cx.2.1 dL_asks_102 hl (by decide) rfl (fun ls hl => ?_)
      refine lv_bipush (v := (-9)) cx.1 cx.2.1 dL_asks_104 (by decide) ?_
      exact ke_i cx hr hlk hI (Nat.le_refl _) (Nat.le_refl _) dL_asks_106 (congrArg (fun z => some (Value.int z)) (zCd_2 _ _ _ _ hf _).symm) (congrArg (xw ad ca) (kSt_n (by rw [hf]; decide) _ _).symm)
    · refine vx_catch (E := "java/util/NoSuchElementException") (name := "java/util/NoSuchElementException") cx.2.2.1 [⟨0, 101, 102, 54⟩, ⟨0, 101, 107, 56⟩] ⟨0, 101, 112, 58⟩ [] (htab.trans rfl) (fun z hz => by simp only [List.mem_cons, List.not_mem_nil, or_false] at hz; rcases hz with rfl | rfl <;> first | (exact Or.inr ⟨by decide, "java/lang/IllegalArgumentException", cx.2.2.2.1 _ wk_214, kl_nc hE (by decide) (by decide) (by decide)⟩) | (exact Or.inr ⟨by decide, "java/lang/IllegalStateException", cx.2.2.2.1 _ wk_215, kl_nc hE (by decide) (by decide) (by decide)⟩)) (by decide) (by decide) (cx.2.2.2.1 _ wk_216) (kl_ys hE (by decide)) hq hv hcl ?_
      refine lv_astore (lv' := [(5, .ref q9), (0, .ref (ad 0)), (1, .int 2), (2, .int key), (3, .int a), (4, .int b)]) cx.1 cx.2.1 dL_asks_112 hl (by decide) rfl (fun ls hl => ?_)
      refine lv_bipush (v := (-10)) cx.1 cx.2.1 dL_asks_114 (by decide) ?_
      exact ke_i cx hr hlk hI (Nat.le_refl _) (Nat.le_refl _) dL_asks_116 (congrArg (fun z => some (Value.int z)) (zCd_3 _ _ _ _ hf _).symm) (congrArg (xw ad ca) (kSt_n (by rw [hf]; decide) _ _).symm)
    · refine vx_catch (E := "java/lang/IllegalStateException") (name := "java/lang/IllegalStateException") cx.2.2.1 [⟨0, 101, 102, 54⟩] ⟨0, 101, 107, 56⟩ [⟨0, 101, 112, 58⟩] (htab.trans rfl) (fun z hz => by simp only [List.mem_cons, List.not_mem_nil, or_false] at hz; subst hz; exact Or.inr ⟨by decide, "java/lang/IllegalArgumentException", cx.2.2.2.1 _ wk_214, kl_nc hE (by decide) (by decide) (by decide)⟩) (by decide) (by decide) (cx.2.2.2.1 _ wk_215) (kl_ys hE (by decide)) hq hv hcl ?_
      refine lv_astore (lv' := [(5, .ref q9), (0, .ref (ad 0)), (1, .int 2), (2, .int key), (3, .int a), (4, .int b)]) cx.1 cx.2.1 dL_asks_107 hl (by decide) rfl (fun ls hl => ?_)
      refine lv_bipush (v := (-8)) cx.1 cx.2.1 dL_asks_109 (by decide) ?_
      exact ke_i cx hr hlk hI (Nat.le_refl _) (Nat.le_refl _) dL_asks_111 (congrArg (fun z => some (Value.int z)) (zCd_4 _ _ _ _ hf _).symm) (congrArg (xw ad ca) (kSt_n (by rw [hf]; decide) _ _).symm)
  · refine lv_goto (tgt := 101) cx.1 cx.2.1 dL_asks_14 (by decide) ?_
    exact ke_i cx hr hlk hI (Nat.le_refl _) (Nat.le_refl _) dL_asks_101 (congrArg (fun z => some (Value.int z)) (zCd_0 _ _ _ _ hφ _).symm) (congrArg (xw ad ca) (kSt_0 hφ _ _).symm)
set_option maxHeartbeats 4000000 in
set_option maxRecDepth 100000 in
theorem kL_asks3 (l : Launch) (D : va_G) (ca : Nat → ClassId) (ad : Nat → Nat) (v : XS) (key a b : Int32) (h0 : ¬ xc v < 0) (hne : xfDelete v key ≠ 1) (hlS : l.stackTraces = false) : CA l D ca ad v 3 key a b (zCd 0 (-10) 0 0 (xfDelete v key) (xRow v key)) (kSt (xfDelete v key) v (xFollow (xPut v key (-1) (-1)) key)) := by
  refine CH.of (by decide) (Nat.le_of_ble_eq_true rfl) ?_
  intro p e s m below meth c A ls cx hml hr hlk htab hE hI hl
  have hl : lv_has ls 6 [(0, .ref (ad 0)), (1, .int 3), (2, .int key), (3, .int a), (4, .int b)] := hl
  refine lv_iload_n cx.1 cx.2.1 dL_asks_0 rfl (lv_at hl 1 rfl) ?_
  refine lv_iconst (v := 3) cx.1 cx.2.1 dL_asks_1 (by decide) ?_
  refine lv_icmp_ge (tgt := 17) cx.1 cx.2.1 dL_asks_2 (by decide) (fun _ => ?_) (fun h9 => absurd (by decide) h9)
  refine lv_iload_n cx.1 cx.2.1 dL_asks_17 rfl (lv_at hl 1 rfl) ?_
  refine lv_iconst (v := 3) cx.1 cx.2.1 dL_asks_18 (by decide) ?_
  refine lv_icmp_ne (tgt := 30) cx.1 cx.2.1 dL_asks_19 (by decide) (fun h9 => absurd (by decide) h9) (fun _ => ?_)
  refine lv_aload_n cx.1 cx.2.1 dL_asks_22 rfl (lv_at hl 0 rfl) ?_
  refine lv_iload_n cx.1 cx.2.1 dL_asks_23 rfl (lv_at hl 2 rfl) ?_
  refine k_callX (C := RX0) (T := TX0) (N := 12) (ci := 0) 1 [] [] cx hE (hl.1.trans hml.symm) (kX0_delete l D ca ad v key h0 hlS) hI (kn0 _) (kn0 _) xw_ad rfl rfl wk_321 wk_318 wk_319 wk_320 wk_1 ⟨rfl, by decide, by decide, by decide +kernel⟩ rfl ⟨rfl, rfl⟩ ⟨Nat.le_of_ble_eq_true rfl, Nat.le_of_ble_eq_true rfl⟩ (Nat.le_of_ble_eq_true rfl) dL_asks_24 ⟨Nat.le_of_ble_eq_true rfl, Nat.le_of_ble_eq_true rfl⟩ rfl (fun E ce q9 H locs hψ hI hq hv hcl => ?_) (fun hφ H locs hI => ?_)
  · rcases hψ with ⟨hf, rfl⟩ | ⟨hf, rfl⟩
    · exact absurd hf hne
    · refine vx_catch (E := "java/util/NoSuchElementException") (name := "java/util/NoSuchElementException") cx.2.2.1 [⟨0, 101, 102, 54⟩, ⟨0, 101, 107, 56⟩] ⟨0, 101, 112, 58⟩ [] (htab.trans rfl) (fun z hz => by simp only [List.mem_cons, List.not_mem_nil, or_false] at hz; rcases hz with rfl | rfl <;> first | (exact Or.inr ⟨by decide, "java/lang/IllegalArgumentException", cx.2.2.2.1 _ wk_214, kl_nc hE (by decide) (by decide) (by decide)⟩) | (exact Or.inr ⟨by decide, "java/lang/IllegalStateException", cx.2.2.2.1 _ wk_215, kl_nc hE (by decide) (by decide) (by decide)⟩)) (by decide) (by decide) (cx.2.2.2.1 _ wk_216) (kl_ys hE (by decide)) hq hv hcl ?_
      refine lv_astore (lv' := [(5, .ref q9), (0, .ref (ad 0)), (1, .int 3), (2, .int key), (3, .int a), (4, .int b)]) cx.1 cx.2.1 dL_asks_112 hl (by decide) rfl (fun ls hl => ?_)
      refine lv_bipush (v := (-10)) cx.1 cx.2.1 dL_asks_114 (by decide) ?_
      exact ke_i cx hr hlk hI (Nat.le_refl _) (Nat.le_refl _) dL_asks_116 (congrArg (fun z => some (Value.int z)) (zCd_2 _ _ _ _ hf _).symm) (congrArg (xw ad ca) (kSt_n (by rw [hf]; decide) _ _).symm)
  · refine lv_goto (tgt := 101) cx.1 cx.2.1 dL_asks_27 (by decide) ?_
    exact ke_i cx hr hlk hI (Nat.le_refl _) (Nat.le_refl _) dL_asks_101 (congrArg (fun z => some (Value.int z)) (zCd_0 _ _ _ _ hφ _).symm) (congrArg (xw ad ca) (kSt_0 hφ _ _).symm)
set_option maxHeartbeats 4000000 in
set_option maxRecDepth 100000 in
theorem kL_asks4 (l : Launch) (D : va_G) (ca : Nat → ClassId) (ad : Nat → Nat) (v : XS) (key a b : Int32) (mk n cn nn : Nat) (hm : xm v = nI mk) (he : ¬ (40 : Int32) ≤ xm v → xCopyE v = nI (mk + n)) (hle : ¬ (40 : Int32) ≤ xm v → mk + n ≤ 40) (hc : kMin (xk v) (xc v) = nI cn) (hn : xc v = nI nn) (hcn : cn ≤ nn) (hn2 : nn ≤ 1024) (hN : ∀ j, j < cn → vp_in (xN v (nI j).toNatClampNeg) 40) (hlS : l.stackTraces = false) : CA l D ca ad v 4 key a b (zCd (-9) (-8) 0 0 (xfTick v key) (if key ≤ xl v then (if 40 ≤ xm v then kMin (xk v) (xc v) else xCopyE v - xm v) else 0)) (kSt (xfTick v key) v (if key ≤ xl v then (if 40 ≤ xm v then xPlay v cn else xCopy v mk n) else v)) := by
  refine CH.of (by decide) (Nat.le_of_ble_eq_true rfl) ?_
  intro p e s m below meth c A ls cx hml hr hlk htab hE hI hl
  have hl : lv_has ls 6 [(0, .ref (ad 0)), (1, .int 4), (2, .int key), (3, .int a), (4, .int b)] := hl
  refine lv_iload_n cx.1 cx.2.1 dL_asks_0 rfl (lv_at hl 1 rfl) ?_
  refine lv_iconst (v := 3) cx.1 cx.2.1 dL_asks_1 (by decide) ?_
  refine lv_icmp_ge (tgt := 17) cx.1 cx.2.1 dL_asks_2 (by decide) (fun _ => ?_) (fun h9 => absurd (by decide) h9)
  refine lv_iload_n cx.1 cx.2.1 dL_asks_17 rfl (lv_at hl 1 rfl) ?_
  refine lv_iconst (v := 3) cx.1 cx.2.1 dL_asks_18 (by decide) ?_
  refine lv_icmp_ne (tgt := 30) cx.1 cx.2.1 dL_asks_19 (by decide) (fun _ => ?_) (fun h9 => absurd h9 (by decide))
  refine lv_iload_n cx.1 cx.2.1 dL_asks_30 rfl (lv_at hl 1 rfl) ?_
  refine lv_iconst (v := 4) cx.1 cx.2.1 dL_asks_31 (by decide) ?_
  refine lv_icmp_ne (tgt := 43) cx.1 cx.2.1 dL_asks_32 (by decide) (fun h9 => absurd (by decide) h9) (fun _ => ?_)
  refine lv_aload_n cx.1 cx.2.1 dL_asks_35 rfl (lv_at hl 0 rfl) ?_
  refine lv_iload_n cx.1 cx.2.1 dL_asks_36 rfl (lv_at hl 2 rfl) ?_
  refine k_callX (C := RX0) (T := TX0) (N := 12) (ci := 0) 1 [] [] cx hE (hl.1.trans hml.symm) (kX0_tick l D ca ad v key mk n cn nn hm he hle hc hn hcn hn2 hN hlS) hI (kn0 _) (kn0 _) xw_ad rfl rfl wk_329 wk_326 wk_327 wk_328 wk_1 ⟨rfl, by decide, by decide, by decide +kernel⟩ rfl ⟨rfl, rfl⟩ ⟨Nat.le_of_ble_eq_true rfl, Nat.le_of_ble_eq_true rfl⟩ (Nat.le_of_ble_eq_true rfl) dL_asks_37 ⟨Nat.le_of_ble_eq_true rfl, Nat.le_of_ble_eq_true rfl⟩ rfl (fun E ce q9 H locs hψ hI hq hv hcl => ?_) (fun hφ H locs hI => ?_)
  · rcases hψ with ⟨hf, rfl⟩ | ⟨hf, rfl⟩
    · refine vx_catch (E := "java/lang/IllegalArgumentException") (name := "java/lang/IllegalArgumentException") cx.2.2.1 [] ⟨0, 101, 102, 54⟩ [⟨0, 101, 107, 56⟩, ⟨0, 101, 112, 58⟩] (htab.trans rfl) (fun z hz => nomatch hz) (by decide) (by decide) (cx.2.2.2.1 _ wk_214) (kl_ys hE (by decide)) hq hv hcl ?_
      refine lv_astore (lv' := [(5, .ref q9), (0, .ref (ad 0)), (1, .int 4), (2, .int key), (3, .int a), (4, .int b)]) cx.1 cx.2.1 dL_asks_102 hl (by decide) rfl (fun ls hl => ?_)
      refine lv_bipush (v := (-9)) cx.1 cx.2.1 dL_asks_104 (by decide) ?_
      exact ke_i cx hr hlk hI (Nat.le_refl _) (Nat.le_refl _) dL_asks_106 (congrArg (fun z => some (Value.int z)) (zCd_1 _ _ _ _ hf _).symm) (congrArg (xw ad ca) (kSt_n (by rw [hf]; decide) _ _).symm)
    · refine vx_catch (E := "java/lang/IllegalStateException") (name := "java/lang/IllegalStateException") cx.2.2.1 [⟨0, 101, 102, 54⟩] ⟨0, 101, 107, 56⟩ [⟨0, 101, 112, 58⟩] (htab.trans rfl) (fun z hz => by simp only [List.mem_cons, List.not_mem_nil, or_false] at hz; subst hz; exact Or.inr ⟨by decide, "java/lang/IllegalArgumentException", cx.2.2.2.1 _ wk_214, kl_nc hE (by decide) (by decide) (by decide)⟩) (by decide) (by decide) (cx.2.2.2.1 _ wk_215) (kl_ys hE (by decide)) hq hv hcl ?_
      refine lv_astore (lv' := [(5, .ref q9), (0, .ref (ad 0)), (1, .int 4), (2, .int key), (3, .int a), (4, .int b)]) cx.1 cx.2.1 dL_asks_107 hl (by decide) rfl (fun ls hl => ?_)
      refine lv_bipush (v := (-8)) cx.1 cx.2.1 dL_asks_109 (by decide) ?_
      exact ke_i cx hr hlk hI (Nat.le_refl _) (Nat.le_refl _) dL_asks_111 (congrArg (fun z => some (Value.int z)) (zCd_2 _ _ _ _ hf _).symm) (congrArg (xw ad ca) (kSt_n (by rw [hf]; decide) _ _).symm)
  · refine lv_goto (tgt := 101) cx.1 cx.2.1 dL_asks_40 (by decide) ?_
    exact ke_i cx hr hlk hI (Nat.le_refl _) (Nat.le_refl _) dL_asks_101 (congrArg (fun z => some (Value.int z)) (zCd_0 _ _ _ _ hφ _).symm) (congrArg (xw ad ca) (kSt_0 hφ _ _).symm)
set_option maxHeartbeats 4000000 in
set_option maxRecDepth 100000 in
theorem kL_asks5 (l : Launch) (D : va_G) (ca : Nat → ClassId) (ad : Nat → Nat) (v : XS) (key a b : Int32) (nn : Nat) (hn : xc v = nI nn) (hn2 : nn ≤ 1024) (hN : ∀ j, j < nn → vp_in (xN v (nI j).toNatClampNeg) 40) (hlS : l.stackTraces = false) : CA l D ca ad v 5 key a b (zCd (-9) (-8) 0 0 (xfCut v key) (xc v)) (kSt (xfCut v key) v (xUp (xPlay v nn) 2)) := by
  refine CH.of (by decide) (Nat.le_of_ble_eq_true rfl) ?_
  intro p e s m below meth c A ls cx hml hr hlk htab hE hI hl
  have hl : lv_has ls 6 [(0, .ref (ad 0)), (1, .int 5), (2, .int key), (3, .int a), (4, .int b)] := hl
  refine lv_iload_n cx.1 cx.2.1 dL_asks_0 rfl (lv_at hl 1 rfl) ?_
  refine lv_iconst (v := 3) cx.1 cx.2.1 dL_asks_1 (by decide) ?_
  refine lv_icmp_ge (tgt := 17) cx.1 cx.2.1 dL_asks_2 (by decide) (fun _ => ?_) (fun h9 => absurd (by decide) h9)
  refine lv_iload_n cx.1 cx.2.1 dL_asks_17 rfl (lv_at hl 1 rfl) ?_
  refine lv_iconst (v := 3) cx.1 cx.2.1 dL_asks_18 (by decide) ?_
  refine lv_icmp_ne (tgt := 30) cx.1 cx.2.1 dL_asks_19 (by decide) (fun _ => ?_) (fun h9 => absurd h9 (by decide))
  refine lv_iload_n cx.1 cx.2.1 dL_asks_30 rfl (lv_at hl 1 rfl) ?_
  refine lv_iconst (v := 4) cx.1 cx.2.1 dL_asks_31 (by decide) ?_
  refine lv_icmp_ne (tgt := 43) cx.1 cx.2.1 dL_asks_32 (by decide) (fun _ => ?_) (fun h9 => absurd h9 (by decide))
  refine lv_iload_n cx.1 cx.2.1 dL_asks_43 rfl (lv_at hl 1 rfl) ?_
  refine lv_iconst (v := 5) cx.1 cx.2.1 dL_asks_44 (by decide) ?_
  refine lv_icmp_ne (tgt := 56) cx.1 cx.2.1 dL_asks_45 (by decide) (fun h9 => absurd (by decide) h9) (fun _ => ?_)
  refine lv_aload_n cx.1 cx.2.1 dL_asks_48 rfl (lv_at hl 0 rfl) ?_
  refine lv_iload_n cx.1 cx.2.1 dL_asks_49 rfl (lv_at hl 2 rfl) ?_
  refine k_callX (C := RX0) (T := TX0) (N := 12) (ci := 0) 1 [] [] cx hE (hl.1.trans hml.symm) (kX0_cutOver l D ca ad v key nn hn hn2 hN hlS) hI (kn0 _) (kn0 _) xw_ad rfl rfl wk_346 wk_343 wk_344 wk_345 wk_1 ⟨rfl, by decide, by decide, by decide +kernel⟩ rfl ⟨rfl, rfl⟩ ⟨Nat.le_of_ble_eq_true rfl, Nat.le_of_ble_eq_true rfl⟩ (Nat.le_of_ble_eq_true rfl) dL_asks_50 ⟨Nat.le_of_ble_eq_true rfl, Nat.le_of_ble_eq_true rfl⟩ rfl (fun E ce q9 H locs hψ hI hq hv hcl => ?_) (fun hφ H locs hI => ?_)
  · rcases hψ with ⟨hf, rfl⟩ | ⟨hf, rfl⟩
    · refine vx_catch (E := "java/lang/IllegalArgumentException") (name := "java/lang/IllegalArgumentException") cx.2.2.1 [] ⟨0, 101, 102, 54⟩ [⟨0, 101, 107, 56⟩, ⟨0, 101, 112, 58⟩] (htab.trans rfl) (fun z hz => nomatch hz) (by decide) (by decide) (cx.2.2.2.1 _ wk_214) (kl_ys hE (by decide)) hq hv hcl ?_
      refine lv_astore (lv' := [(5, .ref q9), (0, .ref (ad 0)), (1, .int 5), (2, .int key), (3, .int a), (4, .int b)]) cx.1 cx.2.1 dL_asks_102 hl (by decide) rfl (fun ls hl => ?_)
      refine lv_bipush (v := (-9)) cx.1 cx.2.1 dL_asks_104 (by decide) ?_
      exact ke_i cx hr hlk hI (Nat.le_refl _) (Nat.le_refl _) dL_asks_106 (congrArg (fun z => some (Value.int z)) (zCd_1 _ _ _ _ hf _).symm) (congrArg (xw ad ca) (kSt_n (by rw [hf]; decide) _ _).symm)
    · refine vx_catch (E := "java/lang/IllegalStateException") (name := "java/lang/IllegalStateException") cx.2.2.1 [⟨0, 101, 102, 54⟩] ⟨0, 101, 107, 56⟩ [⟨0, 101, 112, 58⟩] (htab.trans rfl) (fun z hz => by simp only [List.mem_cons, List.not_mem_nil, or_false] at hz; subst hz; exact Or.inr ⟨by decide, "java/lang/IllegalArgumentException", cx.2.2.2.1 _ wk_214, kl_nc hE (by decide) (by decide) (by decide)⟩) (by decide) (by decide) (cx.2.2.2.1 _ wk_215) (kl_ys hE (by decide)) hq hv hcl ?_
      refine lv_astore (lv' := [(5, .ref q9), (0, .ref (ad 0)), (1, .int 5), (2, .int key), (3, .int a), (4, .int b)]) cx.1 cx.2.1 dL_asks_107 hl (by decide) rfl (fun ls hl => ?_)
      refine lv_bipush (v := (-8)) cx.1 cx.2.1 dL_asks_109 (by decide) ?_
      exact ke_i cx hr hlk hI (Nat.le_refl _) (Nat.le_refl _) dL_asks_111 (congrArg (fun z => some (Value.int z)) (zCd_2 _ _ _ _ hf _).symm) (congrArg (xw ad ca) (kSt_n (by rw [hf]; decide) _ _).symm)
  · refine lv_goto (tgt := 101) cx.1 cx.2.1 dL_asks_53 (by decide) ?_
    exact ke_i cx hr hlk hI (Nat.le_refl _) (Nat.le_refl _) dL_asks_101 (congrArg (fun z => some (Value.int z)) (zCd_0 _ _ _ _ hφ _).symm) (congrArg (xw ad ca) (kSt_0 hφ _ _).symm)
set_option maxHeartbeats 4000000 in
set_option maxRecDepth 100000 in
theorem kL_asks6 (l : Launch) (D : va_G) (ca : Nat → ClassId) (ad : Nat → Nat) (v : XS) (key a b : Int32) (hlS : l.stackTraces = false) : CA l D ca ad v 6 key a b (zCd (-8) 0 0 0 (xfUndo v) (xRemN v 40)) (kSt (xfUndo v) v (xEnd (xRem v 40))) := by
  refine CH.of (by decide) (Nat.le_of_ble_eq_true rfl) ?_
  intro p e s m below meth c A ls cx hml hr hlk htab hE hI hl
  have hl : lv_has ls 6 [(0, .ref (ad 0)), (1, .int 6), (2, .int key), (3, .int a), (4, .int b)] := hl
  refine lv_iload_n cx.1 cx.2.1 dL_asks_0 rfl (lv_at hl 1 rfl) ?_
  refine lv_iconst (v := 3) cx.1 cx.2.1 dL_asks_1 (by decide) ?_
  refine lv_icmp_ge (tgt := 17) cx.1 cx.2.1 dL_asks_2 (by decide) (fun _ => ?_) (fun h9 => absurd (by decide) h9)
  refine lv_iload_n cx.1 cx.2.1 dL_asks_17 rfl (lv_at hl 1 rfl) ?_
  refine lv_iconst (v := 3) cx.1 cx.2.1 dL_asks_18 (by decide) ?_
  refine lv_icmp_ne (tgt := 30) cx.1 cx.2.1 dL_asks_19 (by decide) (fun _ => ?_) (fun h9 => absurd h9 (by decide))
  refine lv_iload_n cx.1 cx.2.1 dL_asks_30 rfl (lv_at hl 1 rfl) ?_
  refine lv_iconst (v := 4) cx.1 cx.2.1 dL_asks_31 (by decide) ?_
  refine lv_icmp_ne (tgt := 43) cx.1 cx.2.1 dL_asks_32 (by decide) (fun _ => ?_) (fun h9 => absurd h9 (by decide))
  refine lv_iload_n cx.1 cx.2.1 dL_asks_43 rfl (lv_at hl 1 rfl) ?_
  refine lv_iconst (v := 5) cx.1 cx.2.1 dL_asks_44 (by decide) ?_
  refine lv_icmp_ne (tgt := 56) cx.1 cx.2.1 dL_asks_45 (by decide) (fun _ => ?_) (fun h9 => absurd h9 (by decide))
  refine lv_iload_n cx.1 cx.2.1 dL_asks_56 rfl (lv_at hl 1 rfl) ?_
  refine lv_bipush (v := 6) cx.1 cx.2.1 dL_asks_57 (by decide) ?_
  refine lv_icmp_ne (tgt := 69) cx.1 cx.2.1 dL_asks_59 (by decide) (fun h9 => absurd (by decide) h9) (fun _ => ?_)
  refine lv_aload_n cx.1 cx.2.1 dL_asks_62 rfl (lv_at hl 0 rfl) ?_
  refine k_callX (C := RX0) (T := TX0) (N := 12) (ci := 0) 0 [] [] cx hE (hl.1.trans hml.symm) (kX0_finish l D ca ad v hlS) hI (kn0 _) (kn0 _) xw_ad rfl rfl wk_352 wk_349 wk_350 wk_351 wk_1 ⟨rfl, by decide, by decide, by decide +kernel⟩ rfl ⟨rfl, rfl⟩ ⟨Nat.le_of_ble_eq_true rfl, Nat.le_of_ble_eq_true rfl⟩ (Nat.le_of_ble_eq_true rfl) dL_asks_63 ⟨Nat.le_of_ble_eq_true rfl, Nat.le_of_ble_eq_true rfl⟩ rfl (fun E ce q9 H locs hψ hI hq hv hcl => ?_) (fun hφ H locs hI => ?_)
  · obtain ⟨hf, rfl⟩ := hψ
    refine vx_catch (E := "java/lang/IllegalStateException") (name := "java/lang/IllegalStateException") cx.2.2.1 [⟨0, 101, 102, 54⟩] ⟨0, 101, 107, 56⟩ [⟨0, 101, 112, 58⟩] (htab.trans rfl) (fun z hz => by simp only [List.mem_cons, List.not_mem_nil, or_false] at hz; subst hz; exact Or.inr ⟨by decide, "java/lang/IllegalArgumentException", cx.2.2.2.1 _ wk_214, kl_nc hE (by decide) (by decide) (by decide)⟩) (by decide) (by decide) (cx.2.2.2.1 _ wk_215) (kl_ys hE (by decide)) hq hv hcl ?_
    refine lv_astore (lv' := [(5, .ref q9), (0, .ref (ad 0)), (1, .int 6), (2, .int key), (3, .int a), (4, .int b)]) cx.1 cx.2.1 dL_asks_107 hl (by decide) rfl (fun ls hl => ?_)
    refine lv_bipush (v := (-8)) cx.1 cx.2.1 dL_asks_109 (by decide) ?_
    exact ke_i cx hr hlk hI (Nat.le_refl _) (Nat.le_refl _) dL_asks_111 (congrArg (fun z => some (Value.int z)) (zCd_1 _ _ _ _ hf _).symm) (congrArg (xw ad ca) (kSt_n (by rw [hf]; decide) _ _).symm)
  · refine lv_goto (tgt := 101) cx.1 cx.2.1 dL_asks_66 (by decide) ?_
    exact ke_i cx hr hlk hI (Nat.le_refl _) (Nat.le_refl _) dL_asks_101 (congrArg (fun z => some (Value.int z)) (zCd_0 _ _ _ _ hφ _).symm) (congrArg (xw ad ca) (kSt_0 hφ _ _).symm)
set_option maxHeartbeats 4000000 in
set_option maxRecDepth 100000 in
theorem kL_asks7 (l : Launch) (D : va_G) (ca : Nat → ClassId) (ad : Nat → Nat) (v : XS) (key a b : Int32) (hlS : l.stackTraces = false) : CA l D ca ad v 7 key a b (zCd (-8) 0 0 0 (xfGive v) (xShRows v 40)) (kSt (xfGive v) v (xEnd v)) := by
  refine CH.of (by decide) (Nat.le_of_ble_eq_true rfl) ?_
  intro p e s m below meth c A ls cx hml hr hlk htab hE hI hl
  have hl : lv_has ls 6 [(0, .ref (ad 0)), (1, .int 7), (2, .int key), (3, .int a), (4, .int b)] := hl
  refine lv_iload_n cx.1 cx.2.1 dL_asks_0 rfl (lv_at hl 1 rfl) ?_
  refine lv_iconst (v := 3) cx.1 cx.2.1 dL_asks_1 (by decide) ?_
  refine lv_icmp_ge (tgt := 17) cx.1 cx.2.1 dL_asks_2 (by decide) (fun _ => ?_) (fun h9 => absurd (by decide) h9)
  refine lv_iload_n cx.1 cx.2.1 dL_asks_17 rfl (lv_at hl 1 rfl) ?_
  refine lv_iconst (v := 3) cx.1 cx.2.1 dL_asks_18 (by decide) ?_
  refine lv_icmp_ne (tgt := 30) cx.1 cx.2.1 dL_asks_19 (by decide) (fun _ => ?_) (fun h9 => absurd h9 (by decide))
  refine lv_iload_n cx.1 cx.2.1 dL_asks_30 rfl (lv_at hl 1 rfl) ?_
  refine lv_iconst (v := 4) cx.1 cx.2.1 dL_asks_31 (by decide) ?_
  refine lv_icmp_ne (tgt := 43) cx.1 cx.2.1 dL_asks_32 (by decide) (fun _ => ?_) (fun h9 => absurd h9 (by decide))
  refine lv_iload_n cx.1 cx.2.1 dL_asks_43 rfl (lv_at hl 1 rfl) ?_
  refine lv_iconst (v := 5) cx.1 cx.2.1 dL_asks_44 (by decide) ?_
  refine lv_icmp_ne (tgt := 56) cx.1 cx.2.1 dL_asks_45 (by decide) (fun _ => ?_) (fun h9 => absurd h9 (by decide))
  refine lv_iload_n cx.1 cx.2.1 dL_asks_56 rfl (lv_at hl 1 rfl) ?_
  refine lv_bipush (v := 6) cx.1 cx.2.1 dL_asks_57 (by decide) ?_
  refine lv_icmp_ne (tgt := 69) cx.1 cx.2.1 dL_asks_59 (by decide) (fun _ => ?_) (fun h9 => absurd h9 (by decide))
  refine lv_iload_n cx.1 cx.2.1 dL_asks_69 rfl (lv_at hl 1 rfl) ?_
  refine lv_bipush (v := 7) cx.1 cx.2.1 dL_asks_70 (by decide) ?_
  refine lv_icmp_ne (tgt := 82) cx.1 cx.2.1 dL_asks_72 (by decide) (fun h9 => absurd (by decide) h9) (fun _ => ?_)
  refine lv_aload_n cx.1 cx.2.1 dL_asks_75 rfl (lv_at hl 0 rfl) ?_
  refine k_callX (C := RX0) (T := TX0) (N := 12) (ci := 0) 0 [] [] cx hE (hl.1.trans hml.symm) (kX0_giveUp l D ca ad v hlS) hI (kn0 _) (kn0 _) xw_ad rfl rfl wk_365 wk_362 wk_363 wk_364 wk_1 ⟨rfl, by decide, by decide, by decide +kernel⟩ rfl ⟨rfl, rfl⟩ ⟨Nat.le_of_ble_eq_true rfl, Nat.le_of_ble_eq_true rfl⟩ (Nat.le_of_ble_eq_true rfl) dL_asks_76 ⟨Nat.le_of_ble_eq_true rfl, Nat.le_of_ble_eq_true rfl⟩ rfl (fun E ce q9 H locs hψ hI hq hv hcl => ?_) (fun hφ H locs hI => ?_)
  · obtain ⟨hf, rfl⟩ := hψ
    refine vx_catch (E := "java/lang/IllegalStateException") (name := "java/lang/IllegalStateException") cx.2.2.1 [⟨0, 101, 102, 54⟩] ⟨0, 101, 107, 56⟩ [⟨0, 101, 112, 58⟩] (htab.trans rfl) (fun z hz => by simp only [List.mem_cons, List.not_mem_nil, or_false] at hz; subst hz; exact Or.inr ⟨by decide, "java/lang/IllegalArgumentException", cx.2.2.2.1 _ wk_214, kl_nc hE (by decide) (by decide) (by decide)⟩) (by decide) (by decide) (cx.2.2.2.1 _ wk_215) (kl_ys hE (by decide)) hq hv hcl ?_
    refine lv_astore (lv' := [(5, .ref q9), (0, .ref (ad 0)), (1, .int 7), (2, .int key), (3, .int a), (4, .int b)]) cx.1 cx.2.1 dL_asks_107 hl (by decide) rfl (fun ls hl => ?_)
    refine lv_bipush (v := (-8)) cx.1 cx.2.1 dL_asks_109 (by decide) ?_
    exact ke_i cx hr hlk hI (Nat.le_refl _) (Nat.le_refl _) dL_asks_111 (congrArg (fun z => some (Value.int z)) (zCd_1 _ _ _ _ hf _).symm) (congrArg (xw ad ca) (kSt_n (by rw [hf]; decide) _ _).symm)
  · refine lv_goto (tgt := 101) cx.1 cx.2.1 dL_asks_79 (by decide) ?_
    exact ke_i cx hr hlk hI (Nat.le_refl _) (Nat.le_refl _) dL_asks_101 (congrArg (fun z => some (Value.int z)) (zCd_0 _ _ _ _ hφ _).symm) (congrArg (xw ad ca) (kSt_0 hφ _ _).symm)
set_option maxHeartbeats 4000000 in
set_option maxRecDepth 100000 in
theorem kL_undoes8 (l : Launch) (D : va_G) (ca : Nat → ClassId) (ad : Nat → Nat) (v : XS)  (hlS : l.stackTraces = false) : CX l yL_undoes cL_undoes 1 (some .int) (KR1 7 102) D ca (xw ad ca v) [.ref (ad 0)] (xfUndo v = 0) (some (.int 0)) (xw ad ca (xUp v 1)) (fun E => (xfUndo v = 1 ∧ E = "java/lang/IllegalStateException")) := by
  refine CX.of (by decide) (Nat.le_of_ble_eq_true rfl) ?_
  intro p e s m below meth c A ls cx hml hr hlk htab hE hI hl
  have hl : lv_has ls 1 [(0, .ref (ad 0))] := hl
  refine lv_aload_n cx.1 cx.2.1 dL_undoes_0 rfl (lv_at hl 0 rfl) ?_
  refine k_callX (C := RX0) (T := TX0) (N := 12) (ci := 0) 0 [] [] cx hE (hl.1.trans hml.symm) (kX0_undo l D ca ad v hlS) hI (kn0 _) (kn0 _) xw_ad rfl rfl wk_373 wk_370 wk_371 wk_372 wk_1 ⟨rfl, by decide, by decide, by decide +kernel⟩ rfl ⟨rfl, rfl⟩ ⟨Nat.le_of_ble_eq_true rfl, Nat.le_of_ble_eq_true rfl⟩ (Nat.le_of_ble_eq_true rfl) dL_undoes_1 ⟨Nat.le_of_ble_eq_true rfl, Nat.le_of_ble_eq_true rfl⟩ rfl (fun E ce q9 H locs hψ hI hq hv hcl => ?_) (fun hφ H locs hI => ?_)
  · exact kx_out htab hlk hI hψ hq hv hcl (Nat.le_of_ble_eq_true rfl) (Nat.le_of_ble_eq_true rfl)
  · refine lv_iconst (v := 0) cx.1 cx.2.1 dL_undoes_4 (by decide) ?_
    exact ke_x hφ (ke_i cx hr hlk hI (Nat.le_of_ble_eq_true rfl) (Nat.le_of_ble_eq_true rfl) dL_undoes_5 rfl rfl)
set_option maxHeartbeats 4000000 in
set_option maxRecDepth 100000 in
theorem kL_asks8 (l : Launch) (D : va_G) (ca : Nat → ClassId) (ad : Nat → Nat) (v : XS) (key a b : Int32) (hlS : l.stackTraces = false) : CA l D ca ad v 8 key a b (zCd (-8) 0 0 0 (xfUndo v) (0)) (kSt (xfUndo v) v (xUp v 1)) := by
  refine CH.of (by decide) (Nat.le_of_ble_eq_true rfl) ?_
  intro p e s m below meth c A ls cx hml hr hlk htab hE hI hl
  have hl : lv_has ls 6 [(0, .ref (ad 0)), (1, .int 8), (2, .int key), (3, .int a), (4, .int b)] := hl
  refine lv_iload_n cx.1 cx.2.1 dL_asks_0 rfl (lv_at hl 1 rfl) ?_
  refine lv_iconst (v := 3) cx.1 cx.2.1 dL_asks_1 (by decide) ?_
  refine lv_icmp_ge (tgt := 17) cx.1 cx.2.1 dL_asks_2 (by decide) (fun _ => ?_) (fun h9 => absurd (by decide) h9)
  refine lv_iload_n cx.1 cx.2.1 dL_asks_17 rfl (lv_at hl 1 rfl) ?_
  refine lv_iconst (v := 3) cx.1 cx.2.1 dL_asks_18 (by decide) ?_
  refine lv_icmp_ne (tgt := 30) cx.1 cx.2.1 dL_asks_19 (by decide) (fun _ => ?_) (fun h9 => absurd h9 (by decide))
  refine lv_iload_n cx.1 cx.2.1 dL_asks_30 rfl (lv_at hl 1 rfl) ?_
  refine lv_iconst (v := 4) cx.1 cx.2.1 dL_asks_31 (by decide) ?_
  refine lv_icmp_ne (tgt := 43) cx.1 cx.2.1 dL_asks_32 (by decide) (fun _ => ?_) (fun h9 => absurd h9 (by decide))
  refine lv_iload_n cx.1 cx.2.1 dL_asks_43 rfl (lv_at hl 1 rfl) ?_
  refine lv_iconst (v := 5) cx.1 cx.2.1 dL_asks_44 (by decide) ?_
  refine lv_icmp_ne (tgt := 56) cx.1 cx.2.1 dL_asks_45 (by decide) (fun _ => ?_) (fun h9 => absurd h9 (by decide))
  refine lv_iload_n cx.1 cx.2.1 dL_asks_56 rfl (lv_at hl 1 rfl) ?_
  refine lv_bipush (v := 6) cx.1 cx.2.1 dL_asks_57 (by decide) ?_
  refine lv_icmp_ne (tgt := 69) cx.1 cx.2.1 dL_asks_59 (by decide) (fun _ => ?_) (fun h9 => absurd h9 (by decide))
  refine lv_iload_n cx.1 cx.2.1 dL_asks_69 rfl (lv_at hl 1 rfl) ?_
  refine lv_bipush (v := 7) cx.1 cx.2.1 dL_asks_70 (by decide) ?_
  refine lv_icmp_ne (tgt := 82) cx.1 cx.2.1 dL_asks_72 (by decide) (fun _ => ?_) (fun h9 => absurd h9 (by decide))
  refine lv_iload_n cx.1 cx.2.1 dL_asks_82 rfl (lv_at hl 1 rfl) ?_
  refine lv_bipush (v := 8) cx.1 cx.2.1 dL_asks_83 (by decide) ?_
  refine lv_icmp_ne (tgt := 95) cx.1 cx.2.1 dL_asks_85 (by decide) (fun h9 => absurd (by decide) h9) (fun _ => ?_)
  refine lv_aload_n cx.1 cx.2.1 dL_asks_88 rfl (lv_at hl 0 rfl) ?_
  refine k_callXS 1 cx hE (hl.1.trans hml.symm) (kL_undoes8 l D ca ad v  hlS) hI xw_ad wk_369 wk_367 wk_368 wk_0 ⟨by decide, by decide, by decide +kernel⟩ rfl ⟨rfl, rfl⟩ ⟨Nat.le_of_ble_eq_true rfl, Nat.le_of_ble_eq_true rfl⟩ (Nat.le_of_ble_eq_true rfl) dL_asks_89 ⟨Nat.le_of_ble_eq_true rfl, Nat.le_of_ble_eq_true rfl⟩ rfl (fun E ce q9 H locs hψ hI hq hv hcl => ?_) (fun hφ H locs hI => ?_)
  · obtain ⟨hf, rfl⟩ := hψ
    refine vx_catch (E := "java/lang/IllegalStateException") (name := "java/lang/IllegalStateException") cx.2.2.1 [⟨0, 101, 102, 54⟩] ⟨0, 101, 107, 56⟩ [⟨0, 101, 112, 58⟩] (htab.trans rfl) (fun z hz => by simp only [List.mem_cons, List.not_mem_nil, or_false] at hz; subst hz; exact Or.inr ⟨by decide, "java/lang/IllegalArgumentException", cx.2.2.2.1 _ wk_214, kl_nc hE (by decide) (by decide) (by decide)⟩) (by decide) (by decide) (cx.2.2.2.1 _ wk_215) (kl_ys hE (by decide)) hq hv hcl ?_
    refine lv_astore (lv' := [(5, .ref q9), (0, .ref (ad 0)), (1, .int 8), (2, .int key), (3, .int a), (4, .int b)]) cx.1 cx.2.1 dL_asks_107 hl (by decide) rfl (fun ls hl => ?_)
    refine lv_bipush (v := (-8)) cx.1 cx.2.1 dL_asks_109 (by decide) ?_
    exact ke_i cx hr hlk hI (Nat.le_refl _) (Nat.le_refl _) dL_asks_111 (congrArg (fun z => some (Value.int z)) (zCd_1 _ _ _ _ hf _).symm) (congrArg (xw ad ca) (kSt_n (by rw [hf]; decide) _ _).symm)
  · refine lv_goto (tgt := 101) cx.1 cx.2.1 dL_asks_92 (by decide) ?_
    exact ke_i cx hr hlk hI (Nat.le_refl _) (Nat.le_refl _) dL_asks_101 (congrArg (fun z => some (Value.int z)) (zCd_0 _ _ _ _ hφ _).symm) (congrArg (xw ad ca) (kSt_0 hφ _ _).symm)
set_option maxHeartbeats 4000000 in
set_option maxRecDepth 100000 in
theorem kL_starts9 (l : Launch) (D : va_G) (ca : Nat → ClassId) (ad : Nat → Nat) (v : XS) (key a : Int32) (hlS : l.stackTraces = false) : CX l yL_starts cL_starts 3 (some .int) (KR1 7 104) D ca (xw ad ca v) [.ref (ad 0), .int key, .int a] (xfStart v key a = 0) (some (.int 0)) (xw ad ca (xStart v key a)) (fun E => (xfStart v key a = 1 ∧ E = "java/lang/IllegalArgumentException") ∨ (xfStart v key a = 2 ∧ E = "java/lang/IllegalStateException")) := by
  refine CX.of (by decide) (Nat.le_of_ble_eq_true rfl) ?_
  intro p e s m below meth c A ls cx hml hr hlk htab hE hI hl
  have hl : lv_has ls 3 [(0, .ref (ad 0)), (1, .int key), (2, .int a)] := hl
  refine lv_aload_n cx.1 cx.2.1 dL_starts_0 rfl (lv_at hl 0 rfl) ?_
  refine lv_iload_n cx.1 cx.2.1 dL_starts_1 rfl (lv_at hl 1 rfl) ?_
  refine lv_iload_n cx.1 cx.2.1 dL_starts_2 rfl (lv_at hl 2 rfl) ?_
  refine k_callX (C := RX0) (T := TX0) (N := 12) (ci := 0) 2 [] [] cx hE (hl.1.trans hml.symm) (kX0_start l D ca ad v key a hlS) hI (kn0 _) (kn0 _) xw_ad rfl rfl wk_380 wk_377 wk_378 wk_379 wk_1 ⟨rfl, by decide, by decide, by decide +kernel⟩ rfl ⟨rfl, rfl⟩ ⟨Nat.le_of_ble_eq_true rfl, Nat.le_of_ble_eq_true rfl⟩ (Nat.le_of_ble_eq_true rfl) dL_starts_3 ⟨Nat.le_of_ble_eq_true rfl, Nat.le_of_ble_eq_true rfl⟩ rfl (fun E ce q9 H locs hψ hI hq hv hcl => ?_) (fun hφ H locs hI => ?_)
  · exact kx_out htab hlk hI hψ hq hv hcl (Nat.le_of_ble_eq_true rfl) (Nat.le_of_ble_eq_true rfl)
  · refine lv_iconst (v := 0) cx.1 cx.2.1 dL_starts_6 (by decide) ?_
    exact ke_x hφ (ke_i cx hr hlk hI (Nat.le_of_ble_eq_true rfl) (Nat.le_of_ble_eq_true rfl) dL_starts_7 rfl rfl)
set_option maxHeartbeats 4000000 in
set_option maxRecDepth 100000 in
theorem kL_asks9 (l : Launch) (D : va_G) (ca : Nat → ClassId) (ad : Nat → Nat) (v : XS) (key a b : Int32) (hlS : l.stackTraces = false) : CA l D ca ad v 9 key a b (zCd (-9) (-8) 0 0 (xfStart v key a) (0)) (kSt (xfStart v key a) v (xStart v key a)) := by
  refine CH.of (by decide) (Nat.le_of_ble_eq_true rfl) ?_
  intro p e s m below meth c A ls cx hml hr hlk htab hE hI hl
  have hl : lv_has ls 6 [(0, .ref (ad 0)), (1, .int 9), (2, .int key), (3, .int a), (4, .int b)] := hl
  refine lv_iload_n cx.1 cx.2.1 dL_asks_0 rfl (lv_at hl 1 rfl) ?_
  refine lv_iconst (v := 3) cx.1 cx.2.1 dL_asks_1 (by decide) ?_
  refine lv_icmp_ge (tgt := 17) cx.1 cx.2.1 dL_asks_2 (by decide) (fun _ => ?_) (fun h9 => absurd (by decide) h9)
  refine lv_iload_n cx.1 cx.2.1 dL_asks_17 rfl (lv_at hl 1 rfl) ?_
  refine lv_iconst (v := 3) cx.1 cx.2.1 dL_asks_18 (by decide) ?_
  refine lv_icmp_ne (tgt := 30) cx.1 cx.2.1 dL_asks_19 (by decide) (fun _ => ?_) (fun h9 => absurd h9 (by decide))
  refine lv_iload_n cx.1 cx.2.1 dL_asks_30 rfl (lv_at hl 1 rfl) ?_
  refine lv_iconst (v := 4) cx.1 cx.2.1 dL_asks_31 (by decide) ?_
  refine lv_icmp_ne (tgt := 43) cx.1 cx.2.1 dL_asks_32 (by decide) (fun _ => ?_) (fun h9 => absurd h9 (by decide))
  refine lv_iload_n cx.1 cx.2.1 dL_asks_43 rfl (lv_at hl 1 rfl) ?_
  refine lv_iconst (v := 5) cx.1 cx.2.1 dL_asks_44 (by decide) ?_
  refine lv_icmp_ne (tgt := 56) cx.1 cx.2.1 dL_asks_45 (by decide) (fun _ => ?_) (fun h9 => absurd h9 (by decide))
  refine lv_iload_n cx.1 cx.2.1 dL_asks_56 rfl (lv_at hl 1 rfl) ?_
  refine lv_bipush (v := 6) cx.1 cx.2.1 dL_asks_57 (by decide) ?_
  refine lv_icmp_ne (tgt := 69) cx.1 cx.2.1 dL_asks_59 (by decide) (fun _ => ?_) (fun h9 => absurd h9 (by decide))
  refine lv_iload_n cx.1 cx.2.1 dL_asks_69 rfl (lv_at hl 1 rfl) ?_
  refine lv_bipush (v := 7) cx.1 cx.2.1 dL_asks_70 (by decide) ?_
  refine lv_icmp_ne (tgt := 82) cx.1 cx.2.1 dL_asks_72 (by decide) (fun _ => ?_) (fun h9 => absurd h9 (by decide))
  refine lv_iload_n cx.1 cx.2.1 dL_asks_82 rfl (lv_at hl 1 rfl) ?_
  refine lv_bipush (v := 8) cx.1 cx.2.1 dL_asks_83 (by decide) ?_
  refine lv_icmp_ne (tgt := 95) cx.1 cx.2.1 dL_asks_85 (by decide) (fun _ => ?_) (fun h9 => absurd h9 (by decide))
  refine lv_aload_n cx.1 cx.2.1 dL_asks_95 rfl (lv_at hl 0 rfl) ?_
  refine lv_iload_n cx.1 cx.2.1 dL_asks_96 rfl (lv_at hl 2 rfl) ?_
  refine lv_iload_n cx.1 cx.2.1 dL_asks_97 rfl (lv_at hl 3 rfl) ?_
  refine k_callXS 3 cx hE (hl.1.trans hml.symm) (kL_starts9 l D ca ad v key a hlS) hI xw_ad wk_376 wk_374 wk_375 wk_0 ⟨by decide, by decide, by decide +kernel⟩ rfl ⟨rfl, rfl⟩ ⟨Nat.le_of_ble_eq_true rfl, Nat.le_of_ble_eq_true rfl⟩ (Nat.le_of_ble_eq_true rfl) dL_asks_98 ⟨Nat.le_of_ble_eq_true rfl, Nat.le_of_ble_eq_true rfl⟩ rfl (fun E ce q9 H locs hψ hI hq hv hcl => ?_) (fun hφ H locs hI => ?_)
  · rcases hψ with ⟨hf, rfl⟩ | ⟨hf, rfl⟩
    · refine vx_catch (E := "java/lang/IllegalArgumentException") (name := "java/lang/IllegalArgumentException") cx.2.2.1 [] ⟨0, 101, 102, 54⟩ [⟨0, 101, 107, 56⟩, ⟨0, 101, 112, 58⟩] (htab.trans rfl) (fun z hz => nomatch hz) (by decide) (by decide) (cx.2.2.2.1 _ wk_214) (kl_ys hE (by decide)) hq hv hcl ?_
      refine lv_astore (lv' := [(5, .ref q9), (0, .ref (ad 0)), (1, .int 9), (2, .int key), (3, .int a), (4, .int b)]) cx.1 cx.2.1 dL_asks_102 hl (by decide) rfl (fun ls hl => ?_)
      refine lv_bipush (v := (-9)) cx.1 cx.2.1 dL_asks_104 (by decide) ?_
      exact ke_i cx hr hlk hI (Nat.le_refl _) (Nat.le_refl _) dL_asks_106 (congrArg (fun z => some (Value.int z)) (zCd_1 _ _ _ _ hf _).symm) (congrArg (xw ad ca) (kSt_n (by rw [hf]; decide) _ _).symm)
    · refine vx_catch (E := "java/lang/IllegalStateException") (name := "java/lang/IllegalStateException") cx.2.2.1 [⟨0, 101, 102, 54⟩] ⟨0, 101, 107, 56⟩ [⟨0, 101, 112, 58⟩] (htab.trans rfl) (fun z hz => by simp only [List.mem_cons, List.not_mem_nil, or_false] at hz; subst hz; exact Or.inr ⟨by decide, "java/lang/IllegalArgumentException", cx.2.2.2.1 _ wk_214, kl_nc hE (by decide) (by decide) (by decide)⟩) (by decide) (by decide) (cx.2.2.2.1 _ wk_215) (kl_ys hE (by decide)) hq hv hcl ?_
      refine lv_astore (lv' := [(5, .ref q9), (0, .ref (ad 0)), (1, .int 9), (2, .int key), (3, .int a), (4, .int b)]) cx.1 cx.2.1 dL_asks_107 hl (by decide) rfl (fun ls hl => ?_)
      refine lv_bipush (v := (-8)) cx.1 cx.2.1 dL_asks_109 (by decide) ?_
      exact ke_i cx hr hlk hI (Nat.le_refl _) (Nat.le_refl _) dL_asks_111 (congrArg (fun z => some (Value.int z)) (zCd_2 _ _ _ _ hf _).symm) (congrArg (xw ad ca) (kSt_n (by rw [hf]; decide) _ _).symm)
  · exact ke_i cx hr hlk hI (Nat.le_refl _) (Nat.le_refl _) dL_asks_101 (congrArg (fun z => some (Value.int z)) (zCd_0 _ _ _ _ hφ _).symm) (congrArg (xw ad ca) (kSt_0 hφ _ _).symm)
end
section
/-! MINE: what a write of clients does to what the law looks at. -/
theorem CA.ok {l : Launch} {D : va_G} {ca : Nat → ClassId} {ad : Nat → Nat} {v v' : XS} {w k a b c1 c2 c3 c4 r : Int32} {F : Nat} (h : CA l D ca ad v w k a b (zCd c1 c2 c3 c4 F r) (kSt F v v')) (hF : F = 0) : CA l D ca ad v w k a b r v' := by
  rw [zCd_0 _ _ _ _ hF, kSt_0 hF] at h
  exact h
theorem CA.f1 {l : Launch} {D : va_G} {ca : Nat → ClassId} {ad : Nat → Nat} {v v' : XS} {w k a b c1 c2 c3 c4 r : Int32} {F : Nat} (h : CA l D ca ad v w k a b (zCd c1 c2 c3 c4 F r) (kSt F v v')) (hF : F = 1) : CA l D ca ad v w k a b c1 v := by
  rw [zCd_1 _ _ _ _ hF, kSt_n (by rw [hF]; decide)] at h
  exact h
theorem CA.f2 {l : Launch} {D : va_G} {ca : Nat → ClassId} {ad : Nat → Nat} {v v' : XS} {w k a b c1 c2 c3 c4 r : Int32} {F : Nat} (h : CA l D ca ad v w k a b (zCd c1 c2 c3 c4 F r) (kSt F v v')) (hF : F = 2) : CA l D ca ad v w k a b c2 v := by
  rw [zCd_2 _ _ _ _ hF, kSt_n (by rw [hF]; decide)] at h
  exact h
theorem CA.f3 {l : Launch} {D : va_G} {ca : Nat → ClassId} {ad : Nat → Nat} {v v' : XS} {w k a b c1 c2 c3 c4 r : Int32} {F : Nat} (h : CA l D ca ad v w k a b (zCd c1 c2 c3 c4 F r) (kSt F v v')) (hF : F = 3) : CA l D ca ad v w k a b c3 v := by
  rw [zCd_3 _ _ _ _ hF, kSt_n (by rw [hF]; decide)] at h
  exact h
theorem CA.f4 {l : Launch} {D : va_G} {ca : Nat → ClassId} {ad : Nat → Nat} {v v' : XS} {w k a b c1 c2 c3 c4 r : Int32} {F : Nat} (h : CA l D ca ad v w k a b (zCd c1 c2 c3 c4 F r) (kSt F v v')) (hF : F = 4) : CA l D ca ad v w k a b c4 v := by
  rw [zCd_4 _ _ _ _ hF, kSt_n (by rw [hF]; decide)] at h
  exact h
theorem bcase (b : Bool) : b = true ∨ b = false := by
  cases b
  · exact Or.inr rfl
  · exact Or.inl rfl
theorem within_n {x : Nat} (hx : x ≤ 999) : xWithin (nI x) 0 999 = true := by
  unfold xWithin
  rw [decide_eq_false (nI_pos (by omega)), decide_eq_false (fun q => by have := (nI_ltI (a := 999) (b := x) (by decide) (by omega)).mp q; omega)]
  rfl
theorem cbw_is {v : XS} {x y : Nat} (hx : x ≤ 999) (hy : y ≤ 999) : xCbw v (nI x) (nI y) = (!decide (xp v = 2) || xFits v (nI y)) := by
  unfold xCbw
  rw [within_n hx, within_n hy]
  rfl
theorem cbw_t {v : XS} {x y : Nat} (hx : x ≤ 999) (hy : y ≤ 999) (h : ¬ xp v = 2) : (1 : Int32) = b2i (xCbw v (nI x) (nI y)) := by
  rw [cbw_is hx hy, decide_eq_false h]
  rfl
theorem cbw_n {v : XS} {x y : Nat} (hx : x ≤ 999) (hy : y ≤ 999) (hq : zQ v) (h : xp v = 2) (q : lAlt (xt v) (xq v) (nI (1000 * x + y)) 0 < 0) : (0 : Int32) = b2i (xCbw v (nI x) (nI y)) := by
  rw [cbw_is hx hy, decide_eq_true h]
  cases hf : xFits v (nI y) with
  | false => rfl
  | true =>
    rw [lAlt_w hx hy, if_pos hf] at q
    obtain ⟨n, hn, e⟩ := l_altn hq hx hy 0
    rw [e] at q
    exact absurd q (nI_pos hn)
theorem cbw_p {v : XS} {x y : Nat} (hx : x ≤ 999) (hy : y ≤ 999) (q : ¬ lAlt (xt v) (xq v) (nI (1000 * x + y)) 0 < 0) : (1 : Int32) = b2i (xCbw v (nI x) (nI y)) := by
  rw [cbw_is hx hy]
  cases hf : xFits v (nI y) with
  | false =>
    rw [lAlt_w hx hy, if_neg (by rw [hf]; decide)] at q
    exact absurd (by decide) q
  | true => cases decide (xp v = 2) <;> rfl
theorem in_n {i : Nat} (hi : i < 40) : xWithin (nI i) 0 39 = true := in_key (vp_in_nI hi (by decide))
theorem fins_2 {v : XS} {i : Nat} (hi : i < 40) {a b : Int32} (h : xCbw v a b = false) : xfInsert v (nI i) a b = 2 := by
  unfold xfInsert
  rw [in_n hi, h]
  rfl
theorem fins_3 {v : XS} {i : Nat} (hi : i < 40) {a b : Int32} (h : xCbw v a b = true) (h2 : xSeen v (nI i) = true) : xfInsert v (nI i) a b = 3 := by
  unfold xfInsert
  rw [in_n hi, h, h2]
  rfl
theorem fins_0 {v : XS} {i : Nat} (hi : i < 40) {a b : Int32} (h : xCbw v a b = true) (h2 : xSeen v (nI i) = false) : xfInsert v (nI i) a b = 0 := by
  unfold xfInsert
  rw [in_n hi, h, h2]
  rfl
theorem fins_n {v : XS} {i : Nat} (hi : i < 40) {a b : Int32} : xfInsert v (nI i) a b ≠ 1 := by
  unfold xfInsert
  rw [in_n hi]
  cases xCbw v a b <;> cases xSeen v (nI i) <;> decide
theorem fupd_2 {v : XS} {i : Nat} (hi : i < 40) {a b : Int32} (h : xCbw v a b = false) : xfUpdate v (nI i) a b = 2 := by
  unfold xfUpdate
  rw [in_n hi, h]
  rfl
theorem fupd_3 {v : XS} {i : Nat} (hi : i < 40) {a b : Int32} (h : xCbw v a b = true) (h2 : xSeen v (nI i) = false) : xfUpdate v (nI i) a b = 3 := by
  unfold xfUpdate
  rw [in_n hi, h, h2]
  rfl
theorem fupd_0 {v : XS} {i : Nat} (hi : i < 40) {a b : Int32} (h : xCbw v a b = true) (h2 : xSeen v (nI i) = true) : xfUpdate v (nI i) a b = 0 := by
  unfold xfUpdate
  rw [in_n hi, h, h2]
  rfl
theorem fupd_n {v : XS} {i : Nat} (hi : i < 40) {a b : Int32} : xfUpdate v (nI i) a b ≠ 1 := by
  unfold xfUpdate
  rw [in_n hi]
  cases xCbw v a b <;> cases xSeen v (nI i) <;> decide
theorem fdel_2 {v : XS} {i : Nat} (hi : i < 40) (h2 : xSeen v (nI i) = false) : xfDelete v (nI i) = 2 := by
  unfold xfDelete
  rw [in_n hi, h2]
  rfl
theorem fdel_0 {v : XS} {i : Nat} (hi : i < 40) (h2 : xSeen v (nI i) = true) : xfDelete v (nI i) = 0 := by
  unfold xfDelete
  rw [in_n hi, h2]
  rfl
theorem fdel_n {v : XS} {i : Nat} (hi : i < 40) : xfDelete v (nI i) ≠ 1 := by
  unfold xfDelete
  rw [in_n hi]
  cases xSeen v (nI i) <;> decide
theorem frek_is {v : XS} {i j : Nat} (hi : i < 40) (hj : j < 40) : xfRekey v (nI i) (nI j) = if nI i = nI j then 2 else if !xSeen v (nI i) then 3 else if xSeen v (nI j) then 4 else 0 := by
  unfold xfRekey
  rw [in_n hi, in_n hj]
  rfl
theorem frek_n {v : XS} {i j : Nat} (hi : i < 40) (hj : j < 40) : xfRekey v (nI i) (nI j) ≠ 1 := by
  rw [frek_is hi hj]
  by_cases e : nI i = nI j
  · rw [if_pos e]; decide
  · rw [if_neg e]
    cases xSeen v (nI i) <;> cases xSeen v (nI j) <;> decide
theorem frek_2 {v : XS} {i j : Nat} (hi : i < 40) (hj : j < 40) (e : nI i = nI j) : xfRekey v (nI i) (nI j) = 2 := by
  rw [frek_is hi hj, if_pos e]
theorem frek_3 {v : XS} {i j : Nat} (hi : i < 40) (hj : j < 40) (e : ¬ nI i = nI j) (h : xSeen v (nI i) = false) : xfRekey v (nI i) (nI j) = 3 := by
  rw [frek_is hi hj, if_neg e, h]
  rfl
theorem frek_4 {v : XS} {i j : Nat} (hi : i < 40) (hj : j < 40) (e : ¬ nI i = nI j) (h : xSeen v (nI i) = true) (h2 : xSeen v (nI j) = true) : xfRekey v (nI i) (nI j) = 4 := by
  rw [frek_is hi hj, if_neg e, h, h2]
  rfl
theorem frek_0 {v : XS} {i j : Nat} (hi : i < 40) (hj : j < 40) (e : ¬ nI i = nI j) (h : xSeen v (nI i) = true) (h2 : xSeen v (nI j) = false) : xfRekey v (nI i) (nI j) = 0 := by
  rw [frek_is hi hj, if_neg e, h, h2]
  rfl
/-- what a write leaves as it was -/
theorem follow_o (v : XS) (k : Int32) : xA (xFollow v k) = xA v ∧ xB (xFollow v k) = xB v ∧ xp (xFollow v k) = xp v ∧ xt (xFollow v k) = xt v ∧ xq (xFollow v k) = xq v ∧ xk (xFollow v k) = xk v ∧ xl (xFollow v k) = xl v ∧ xm (xFollow v k) = xm v := by
  unfold xFollow
  by_cases h1 : xp v = 1
  · rw [if_pos h1]
    unfold xNote
    by_cases h2 : (1024 : Int32) ≤ xc v
    · rw [if_pos h2]
      exact ⟨rfl, rfl, rfl, rfl, rfl, rfl, rfl, rfl⟩
    · rw [if_neg h2]
      exact ⟨rfl, rfl, rfl, rfl, rfl, rfl, rfl, rfl⟩
  · rw [if_neg h1]
    by_cases h2 : xp v = 2
    · rw [if_pos h2]
      exact ⟨rfl, rfl, rfl, rfl, rfl, rfl, rfl, rfl⟩
    · rw [if_neg h2]
      exact ⟨rfl, rfl, rfl, rfl, rfl, rfl, rfl, rfl⟩
theorem follow_c1 {v : XS} {c : Nat} (hp : xp v = 1) (hc : c < 1024) (h : xc v = nI c) (k : Int32) : xc (xFollow v k) = xc v + 1 := by
  unfold xFollow
  rw [if_pos hp, xNote_is hc h, h, nI_1]
  rfl
theorem follow_c0 {v : XS} (hp : ¬ xp v = 1) (k : Int32) : xc (xFollow v k) = xc v := by
  unfold xFollow
  rw [if_neg hp]
  by_cases h2 : xp v = 2
  · rw [if_pos h2]
    rfl
  · rw [if_neg h2]
theorem follow_s {v : XS} (hp : ¬ xp v = 2) (k : Int32) : xC0 (xFollow v k) = xC0 v := by
  unfold xFollow
  by_cases h1 : xp v = 1
  · rw [if_pos h1]
    unfold xNote
    by_cases h2 : (1024 : Int32) ≤ xc v
    · rw [if_pos h2]
    · rw [if_neg h2]
      rfl
  · rw [if_neg h1, if_neg hp]
theorem lO_of {v v' : XS} (h1 : xA v' = xA v) (h2 : xB v' = xB v) : lO v' = lO v := by
  unfold lO
  rw [h1, h2]
theorem lO_follow (v : XS) (k : Int32) : lO (xFollow v k) = lO v := lO_of (follow_o v k).1 (follow_o v k).2.1
theorem lO_put {v : XS} {i : Nat} (hi : i < 40) (a b : Int32) : lO (xPut v (nI i) a b) = upd (lO v) i (if a = -1 then -1 else 1000 * a + b) := funext fun j => by
  show (if upd (xA v) (nI i).toNatClampNeg a j = -1 then -1 else 1000 * upd (xA v) (nI i).toNatClampNeg a j + upd (xB v) (nI i).toNatClampNeg b j) = _
  rw [kx hi]
  by_cases e : j = i
  · subst e
    rw [pk_us, pk_us, pk_us]
  · rw [pk_un e, pk_un e, pk_un e]
    rfl
theorem lO_self (f : Nat → Int32) (i : Nat) : upd f i (f i) = f := funext fun j => by
  by_cases e : j = i
  · subst e
    rw [pk_us]
  · rw [pk_un e]
theorem lC_of {v v' : XS} {z : Int32} (h : xp v' = xp v ∧ xt v' = xt v ∧ xq v' = xq v ∧ xk v' = xk v ∧ xl v' = xl v ∧ xm v' = xm v) (hz : z = xc v') : lK (xp v) (xt v) (xq v) (xk v) (xl v) (xm v) z = lC v' := by
  obtain ⟨e0, e1, e2, e3, e4, e5⟩ := h
  unfold lC
  rw [e0, e1, e2, e3, e4, e5, hz]
theorem add0 (x : Int32) : x + 0 = x := Int32.add_zero x
theorem lC_0 (v : XS) : lK (xp v) (xt v) (xq v) (xk v) (xl v) (xm v) (xc v + 0) = lC v := lC_of ⟨rfl, rfl, rfl, rfl, rfl, rfl⟩ (add0 _)
theorem lC_w1 {v : XS} {c : Nat} (hp : xp v = 1) (hc : c < 1024) (h : xc v = nI c) (i k a b : Int32) : lK (xp v) (xt v) (xq v) (xk v) (xl v) (xm v) (xc v + 1) = lC (xFollow (xPut v i a b) k) :=
  lC_of (v := v) ⟨(follow_o _ k).2.2.1, (follow_o _ k).2.2.2.1, (follow_o _ k).2.2.2.2.1, (follow_o _ k).2.2.2.2.2.1, (follow_o _ k).2.2.2.2.2.2.1, (follow_o _ k).2.2.2.2.2.2.2⟩ (follow_c1 (v := xPut v i a b) hp hc h k).symm
theorem lC_w0 {v : XS} (hp : ¬ xp v = 1) (i k a b : Int32) : lK (xp v) (xt v) (xq v) (xk v) (xl v) (xm v) (xc v + 0) = lC (xFollow (xPut v i a b) k) :=
  lC_of (v := v) ⟨(follow_o _ k).2.2.1, (follow_o _ k).2.2.2.1, (follow_o _ k).2.2.2.2.1, (follow_o _ k).2.2.2.2.2.1, (follow_o _ k).2.2.2.2.2.2.1, (follow_o _ k).2.2.2.2.2.2.2⟩ ((add0 _).trans (follow_c0 (v := xPut v i a b) hp k).symm)
theorem lO_w {v : XS} {i : Nat} (hi : i < 40) {x y : Nat} (hx : x ≤ 999) (k : Int32) : upd (lO v) i (nI (1000 * x + y)) = lO (xFollow (xPut v (nI i) (nI x) (nI y)) k) := by
  rw [lO_follow, lO_put hi, if_neg (nI_m1 (by omega)), row_n]
theorem lO_d {v : XS} {i : Nat} (hi : i < 40) (b k : Int32) : upd (lO v) i (-1) = lO (xFollow (xPut v (nI i) (-1) b) k) := by
  rw [lO_follow, lO_put hi, if_pos rfl]
theorem rek_o (v : XS) (i j : Int32) : xA (xRekey v i j) = xA (xPut (xPut v j (xA v i.toNatClampNeg) (xB v i.toNatClampNeg)) i (-1) (-1)) ∧ xB (xRekey v i j) = xB (xPut (xPut v j (xA v i.toNatClampNeg) (xB v i.toNatClampNeg)) i (-1) (-1)) ∧ xp (xRekey v i j) = xp v ∧ xt (xRekey v i j) = xt v ∧ xq (xRekey v i j) = xq v ∧ xk (xRekey v i j) = xk v ∧ xl (xRekey v i j) = xl v ∧ xm (xRekey v i j) = xm v := by
  unfold xRekey
  obtain ⟨a0, a1, a2, a3, a4, a5, a6, a7⟩ := follow_o (xFollow (xPut (xPut v j (xA v i.toNatClampNeg) (xB v i.toNatClampNeg)) i (-1) (-1)) (kMin i j)) (kMax i j)
  obtain ⟨b0, b1, b2, b3, b4, b5, b6, b7⟩ := follow_o (xPut (xPut v j (xA v i.toNatClampNeg) (xB v i.toNatClampNeg)) i (-1) (-1)) (kMin i j)
  exact ⟨a0.trans b0, a1.trans b1, a2.trans b2, a3.trans b3, a4.trans b4, a5.trans b5, a6.trans b6, a7.trans b7⟩
theorem two_c1 {u : XS} {c : Nat} (hp : xp u = 1) (hc : c + 1 < 1024) (h : xc u = nI c) (k k' : Int32) : xc u + 2 = xc (xFollow (xFollow u k) k') := by
  have h1 := follow_c1 hp (by omega) h k
  have h3 : xp (xFollow u k) = 1 := (follow_o u k).2.2.1.trans hp
  generalize xFollow u k = w at h1 h3
  have h2 : xc w = nI (c + 1) := by rw [h1, h, nI_1]
  rw [follow_c1 h3 hc h2, h2, h, nI_1]
  show nI c + nI 2 = _
  rw [nI_add]
theorem rek_c1 {v : XS} {c : Nat} (hp : xp v = 1) (hc : c + 1 < 1024) (h : xc v = nI c) (i j : Int32) : xc v + 2 = xc (xRekey v i j) :=
  two_c1 (u := xPut (xPut v j (xA v i.toNatClampNeg) (xB v i.toNatClampNeg)) i (-1) (-1)) hp hc h (kMin i j) (kMax i j)
theorem two_c0 {u : XS} (hp : ¬ xp u = 1) (k k' : Int32) : xc u + 0 = xc (xFollow (xFollow u k) k') := by
  have h1 := follow_c0 hp k
  have h3 : ¬ xp (xFollow u k) = 1 := by rw [(follow_o u k).2.2.1]; exact hp
  generalize xFollow u k = w at h1 h3
  rw [follow_c0 h3, h1]
  exact add0 _
theorem rek_c0 {v : XS} (hp : ¬ xp v = 1) (i j : Int32) : xc v + 0 = xc (xRekey v i j) :=
  two_c0 (u := xPut (xPut v j (xA v i.toNatClampNeg) (xB v i.toNatClampNeg)) i (-1) (-1)) hp (kMin i j) (kMax i j)
theorem lO_k {v : XS} {i j : Nat} (hi : i < 40) (hj : j < 40) (ho : xOld v (nI i) = true) : upd (upd (lO v) j (lO v i)) i (-1) = lO (xRekey v (nI i) (nI j)) := by
  rw [lO_of (rek_o v (nI i) (nI j)).1 (rek_o v (nI i) (nI j)).2.1, lO_put hi, if_pos rfl, lO_put hj, kx hi]
  have e : lO v i = if xA v i = -1 then -1 else 1000 * xA v i + xB v i := rfl
  rw [e]
/-- rows of the shadow, counted -/
theorem rows_eq {v v' : XS} (h : xC0 v' = xC0 v) : xShRows v' 40 = xShRows v 40 := kSum_congr fun i _ => by
  unfold xSh
  show b2i (!decide (xC0 v' _ = -1)) = b2i (!decide (xC0 v _ = -1))
  rw [h]
def dN (v : XS) : Int32 := kSum (fun i => b2i (lDue v (nI i))) 40
theorem cut_rows {n c m : Nat} {v : XS} (h : zX zE n c m v) (hp : xp v = 2) : xShRows v 40 = dN v := kSum_congr fun i hi => by
  rcases h.2.2.2 with ⟨q, -⟩ | ⟨q, -⟩ | ⟨-, -, -, q⟩
  · rw [q] at hp
    exact absurd hp (by decide)
  · rw [q] at hp
    exact absurd hp (by decide)
  · rw [zB_sh h.1.2.1 hi (h.1.1 i hi).1 ((q i hi).elim False.elim id)]
theorem cut_seen {n c m : Nat} {v : XS} (h : zX zE n c m v) (hp : xp v = 2) {i : Nat} (hi : i < 40) : xSeen v (nI i) = lDue v (nI i) := by
  rcases h.2.2.2 with ⟨q, -⟩ | ⟨q, -⟩ | ⟨-, -, -, q⟩
  · rw [q] at hp
    exact absurd hp (by decide)
  · rw [q] at hp
    exact absurd hp (by decide)
  · unfold xSeen
    rw [zB_sh h.1.2.1 hi (h.1.1 i hi).1 ((q i hi).elim False.elim id), decide_eq_true hp]
    unfold lDue
    cases xOld v (nI i) <;> rfl
theorem lDue_of {v v' : XS} (h1 : xA v' = xA v) (h2 : xB v' = xB v) (h3 : xt v' = xt v) (h4 : xq v' = xq v) (k : Int32) : lDue v' k = lDue v k := by
  unfold lDue xOld xFits
  rw [h1, h2, h3, h4]
theorem lDue_follow (v : XS) (k j : Int32) : lDue (xFollow v k) j = lDue v j := lDue_of (follow_o v k).1 (follow_o v k).2.1 (follow_o v k).2.2.2.1 (follow_o v k).2.2.2.2.1 j
theorem lDue_self {v : XS} {i : Nat} (a b : Int32) : lDue (xPut v (nI i) a b) (nI i) = (!decide (a = -1) && xFits v b) := by
  unfold lDue xOld
  show (!decide (upd (xA v) (nI i).toNatClampNeg a (nI i).toNatClampNeg = -1) && xFits v (upd (xB v) (nI i).toNatClampNeg b (nI i).toNatClampNeg)) = _
  rw [pk_us, pk_us]
theorem xp_w (v : XS) (i k a b : Int32) : xp (xFollow (xPut v i a b) k) = xp v := (follow_o (xPut v i a b) k).2.2.1
theorem rows_w {n c m n' : Nat} {v : XS} (h : zX zE n c m v) (hp : xp v = 2) {i : Nat} (hi : i < 40) (a b : Int32) (h' : zI n' (xFollow (xPut v (nI i) a b) (nI i))) : xShRows (xFollow (xPut v (nI i) a b) (nI i)) 40 + b2i (lDue v (nI i)) = xShRows v 40 + b2i (!decide (a = -1) && xFits v b) := by
  obtain ⟨c', m', h'⟩ := h'
  have e0 : lDue (xFollow (xPut v (nI i) a b) (nI i)) (nI i) = (!decide (a = -1) && xFits v b) := (lDue_follow _ _ _).trans (lDue_self a b)
  have e1 : ∀ j, j < 40 → j ≠ i → lDue (xFollow (xPut v (nI i) a b) (nI i)) (nI j) = lDue v (nI j) := fun j hj e => (lDue_follow _ _ _).trans (lDue_put hi hj e a b)
  have hp' := (xp_w v (nI i) (nI i) a b).trans hp
  generalize xFollow (xPut v (nI i) a b) (nI i) = w at h' e0 e1 hp' ⊢
  rw [cut_rows h hp, cut_rows h' hp', ← e0]
  exact kSum_upd (f := fun k => b2i (lDue w (nI k))) (g := fun k => b2i (lDue v (nI k))) hi (fun j hj e => congrArg b2i (e1 j hj e))
theorem cbw_fits {v : XS} {x y : Nat} (hx : x ≤ 999) (hy : y ≤ 999) (hp : xp v = 2) (h : xCbw v (nI x) (nI y) = true) : (!decide (nI x = -1) && xFits v (nI y)) = true := by
  rw [cbw_is hx hy, decide_eq_true hp] at h
  rw [decide_eq_false (nI_m1 (by omega))]
  exact h
theorem rows_ins {n c m n' : Nat} {v : XS} (h : zX zE n c m v) (hp : xp v = 2) {i x y : Nat} (hi : i < 40) (hx : x ≤ 999) (hy : y ≤ 999) (h' : zI n' (xFollow (xPut v (nI i) (nI x) (nI y)) (nI i))) (hc : xCbw v (nI x) (nI y) = true) (hs : xSeen v (nI i) = false) : xShRows (xFollow (xPut v (nI i) (nI x) (nI y)) (nI i)) 40 = xShRows v 40 + 1 := by
  have e := rows_w h hp hi _ _ h'
  rw [cut_seen h hp hi] at hs
  rw [hs, cbw_fits hx hy hp hc] at e
  exact (add0 _).symm.trans e
theorem i_cancel {a b : Int32} (h : a + 1 = b + 1) : a = b := by
  have := congrArg (· - 1) h
  simpa [Int32.add_sub_cancel] using this
theorem rows_upd {n c m n' : Nat} {v : XS} (h : zX zE n c m v) (hp : xp v = 2) {i x y : Nat} (hi : i < 40) (hx : x ≤ 999) (hy : y ≤ 999) (h' : zI n' (xFollow (xPut v (nI i) (nI x) (nI y)) (nI i))) (hc : xCbw v (nI x) (nI y) = true) (hs : xSeen v (nI i) = true) : xShRows (xFollow (xPut v (nI i) (nI x) (nI y)) (nI i)) 40 = xShRows v 40 := by
  have e := rows_w h hp hi _ _ h'
  rw [cut_seen h hp hi] at hs
  rw [hs, cbw_fits hx hy hp hc] at e
  exact i_cancel e
theorem rows_del {n c m n' : Nat} {v : XS} (h : zX zE n c m v) (hp : xp v = 2) {i : Nat} (hi : i < 40) (h' : zI n' (xFollow (xPut v (nI i) (-1) (-1)) (nI i))) (hs : xSeen v (nI i) = true) : xShRows (xFollow (xPut v (nI i) (-1) (-1)) (nI i)) 40 = xShRows v 40 - 1 := by
  have e := rows_w h hp hi _ _ h'
  rw [cut_seen h hp hi] at hs
  rw [hs] at e
  have e2 : xShRows (xFollow (xPut v (nI i) (-1) (-1)) (nI i)) 40 + 1 = xShRows v 40 := e.trans (add0 _)
  rw [← e2]
  simp [Int32.add_sub_cancel]
theorem rows_0 {v : XS} (hp : ¬ xp v = 2) (i k a b : Int32) : xShRows (xFollow (xPut v i a b) k) 40 = xShRows v 40 := rows_eq (follow_s (v := xPut v i a b) hp k)
theorem rows_k0 {v : XS} (hp : ¬ xp v = 2) (i j : Int32) : xShRows (xRekey v i j) 40 = xShRows v 40 := rows_eq (by
  unfold xRekey
  rw [follow_s (by rw [(follow_o _ _).2.2.1]; exact hp), follow_s (v := xPut (xPut v j (xA v i.toNatClampNeg) (xB v i.toNatClampNeg)) i (-1) (-1)) hp]
  rfl)
theorem rows_k2 {n c m n' : Nat} {v : XS} (h : zX zE n c m v) (hp : xp v = 2) {i j : Nat} (hi : i < 40) (hj : j < 40) (he : ¬ nI i = nI j) (h' : zI n' (xRekey v (nI i) (nI j))) (hs : xSeen v (nI i) = true) (hs2 : xSeen v (nI j) = false) : xShRows (xRekey v (nI i) (nI j)) 40 = xShRows v 40 := by
  obtain ⟨c', m', h'⟩ := h'
  rw [cut_seen h hp hi] at hs
  rw [cut_seen h hp hj] at hs2
  obtain ⟨r0, r1, r2, r3, r4, -⟩ := rek_o v (nI i) (nI j)
  rw [cut_rows h hp, cut_rows h' (r2.trans hp)]
  have hne : i ≠ j := fun q => he (by rw [q])
  have d0 : ∀ k, lDue (xRekey v (nI i) (nI j)) k = lDue (xPut (xPut v (nI j) (xA v (nI i).toNatClampNeg) (xB v (nI i).toNatClampNeg)) (nI i) (-1) (-1)) k := fun k => lDue_of r0 r1 r3 r4 k
  have di : lDue (xRekey v (nI i) (nI j)) (nI i) = false := by
    rw [d0, lDue_self]
    rfl
  have dj : lDue (xRekey v (nI i) (nI j)) (nI j) = true := by
    rw [d0, lDue_put hi hj (Ne.symm hne), lDue_self, ← hs]
    rfl
  have dk : ∀ k, k < 40 → k ≠ i → k ≠ j → lDue (xRekey v (nI i) (nI j)) (nI k) = lDue v (nI k) := fun k hk q1 q2 => by
    rw [d0, lDue_put hi hk q1, lDue_put hj hk q2]
  have e1 := kSum_upd (f := fun k => b2i (lDue (xRekey v (nI i) (nI j)) (nI k))) (g := fun k => if k = i then 0 else b2i (lDue v (nI k))) hj (fun k hk q => by
    show b2i (lDue (xRekey v (nI i) (nI j)) (nI k)) = if k = i then 0 else b2i (lDue v (nI k))
    by_cases e : k = i
    · subst e
      rw [if_pos rfl, di]
      rfl
    · rw [if_neg e, dk k hk e q])
  have e2 := kSum_upd (f := fun k => if k = i then 0 else b2i (lDue v (nI k))) (g := fun k => b2i (lDue v (nI k))) hi (fun k hk q => if_neg q)
  rw [show (if i = i then (0 : Int32) else b2i (lDue v (nI i))) = 0 from if_pos rfl, hs] at e2
  rw [show (if j = i then (0 : Int32) else b2i (lDue v (nI j))) = b2i (lDue v (nI j)) from if_neg (Ne.symm hne), hs2, dj] at e1
  exact (add0 _).symm.trans (e1.trans (e2.trans (add0 _)))
end

section
-- ===== PART A: goes FIRST, ahead of the names: the tables' words, and 'selects' of the private methods out of them =====
/-- a private method of a class that the tables say can be made, by its rows of tables_1 -/
def lw_okq (q : MethodName × Nat) : Prop := (q.1.cls ≠ "java/lang/invoke/MethodHandle" ∧ q.1.cls ≠ "java/lang/invoke/VarHandle") ∧ Cond.instantiable q.1.cls q.2 ∈ tables_1 ∧ Cond.privateMethod q.1 ∈ tables_1 ∧ Cond.instanceMethod q.1 ∈ tables_1
theorem lw_p0 : lw_okq (⟨"TableChanger", "isSeen", "(I)Z"⟩, 12) := ⟨⟨by decide +kernel, by decide +kernel⟩, List.mem_of_getElem? (i := 14) (by decide +kernel), List.mem_of_getElem? (i := 70) (by decide +kernel), List.mem_of_getElem? (i := 71) (by decide +kernel)⟩
theorem lw_p1 : lw_okq (⟨"TableChanger", "isInOld", "(I)Z"⟩, 12) := ⟨⟨by decide +kernel, by decide +kernel⟩, List.mem_of_getElem? (i := 14) (by decide +kernel), List.mem_of_getElem? (i := 74) (by decide +kernel), List.mem_of_getElem? (i := 75) (by decide +kernel)⟩
theorem lw_p2 : lw_okq (⟨"TableChanger", "isInShadow", "(I)Z"⟩, 12) := ⟨⟨by decide +kernel, by decide +kernel⟩, List.mem_of_getElem? (i := 14) (by decide +kernel), List.mem_of_getElem? (i := 78) (by decide +kernel), List.mem_of_getElem? (i := 79) (by decide +kernel)⟩
theorem lw_p3 : lw_okq (⟨"TableChanger", "isBehind", "(I)Z"⟩, 12) := ⟨⟨by decide +kernel, by decide +kernel⟩, List.mem_of_getElem? (i := 14) (by decide +kernel), List.mem_of_getElem? (i := 102) (by decide +kernel), List.mem_of_getElem? (i := 103) (by decide +kernel)⟩
theorem lw_p4 : lw_okq (⟨"TableChanger", "broughtColumn", "(II)I"⟩, 12) := ⟨⟨by decide +kernel, by decide +kernel⟩, List.mem_of_getElem? (i := 14) (by decide +kernel), List.mem_of_getElem? (i := 106) (by decide +kernel), List.mem_of_getElem? (i := 107) (by decide +kernel)⟩
theorem lw_p5 : lw_okq (⟨"TableChanger", "fits", "(I)Z"⟩, 12) := ⟨⟨by decide +kernel, by decide +kernel⟩, List.mem_of_getElem? (i := 14) (by decide +kernel), List.mem_of_getElem? (i := 110) (by decide +kernel), List.mem_of_getElem? (i := 111) (by decide +kernel)⟩
theorem lw_p6 : lw_okq (⟨"TableChanger", "alteredColumn", "(III)I"⟩, 12) := ⟨⟨by decide +kernel, by decide +kernel⟩, List.mem_of_getElem? (i := 14) (by decide +kernel), List.mem_of_getElem? (i := 114) (by decide +kernel), List.mem_of_getElem? (i := 115) (by decide +kernel)⟩
theorem lw_p7 : lw_okq (⟨"TableChanger", "alteredMiddle", "(II)I"⟩, 12) := ⟨⟨by decide +kernel, by decide +kernel⟩, List.mem_of_getElem? (i := 14) (by decide +kernel), List.mem_of_getElem? (i := 118) (by decide +kernel), List.mem_of_getElem? (i := 119) (by decide +kernel)⟩
theorem lw_p8 : lw_okq (⟨"TableChanger", "alteredLast", "(I)I"⟩, 12) := ⟨⟨by decide +kernel, by decide +kernel⟩, List.mem_of_getElem? (i := 14) (by decide +kernel), List.mem_of_getElem? (i := 122) (by decide +kernel), List.mem_of_getElem? (i := 123) (by decide +kernel)⟩
theorem lw_p9 : lw_okq (⟨"java/lang/Throwable", "fillInStackTrace", "(I)Ljava/lang/Throwable;"⟩, 6) := ⟨⟨by decide +kernel, by decide +kernel⟩, List.mem_of_getElem? (i := 184) (by decide +kernel), List.mem_of_getElem? (i := 182) (by decide +kernel), List.mem_of_getElem? (i := 183) (by decide +kernel)⟩
theorem lw_p10 : lw_okq (⟨"TableChanger", "canBeWritten", "(II)Z"⟩, 12) := ⟨⟨by decide +kernel, by decide +kernel⟩, List.mem_of_getElem? (i := 14) (by decide +kernel), List.mem_of_getElem? (i := 214) (by decide +kernel), List.mem_of_getElem? (i := 215) (by decide +kernel)⟩
theorem lw_p11 : lw_okq (⟨"TableChanger", "putRow", "(III)V"⟩, 12) := ⟨⟨by decide +kernel, by decide +kernel⟩, List.mem_of_getElem? (i := 14) (by decide +kernel), List.mem_of_getElem? (i := 250) (by decide +kernel), List.mem_of_getElem? (i := 251) (by decide +kernel)⟩
theorem lw_p12 : lw_okq (⟨"TableChanger", "followWrite", "(I)V"⟩, 12) := ⟨⟨by decide +kernel, by decide +kernel⟩, List.mem_of_getElem? (i := 14) (by decide +kernel), List.mem_of_getElem? (i := 254) (by decide +kernel), List.mem_of_getElem? (i := 255) (by decide +kernel)⟩
theorem lw_p13 : lw_okq (⟨"TableChanger", "noteKey", "(I)V"⟩, 12) := ⟨⟨by decide +kernel, by decide +kernel⟩, List.mem_of_getElem? (i := 14) (by decide +kernel), List.mem_of_getElem? (i := 258) (by decide +kernel), List.mem_of_getElem? (i := 259) (by decide +kernel)⟩
theorem lw_p14 : lw_okq (⟨"TableChanger", "bring", "(I)V"⟩, 12) := ⟨⟨by decide +kernel, by decide +kernel⟩, List.mem_of_getElem? (i := 14) (by decide +kernel), List.mem_of_getElem? (i := 262) (by decide +kernel), List.mem_of_getElem? (i := 263) (by decide +kernel)⟩
theorem lw_p15 : lw_okq (⟨"TableChanger", "rowAsNumber", "(I)I"⟩, 12) := ⟨⟨by decide +kernel, by decide +kernel⟩, List.mem_of_getElem? (i := 14) (by decide +kernel), List.mem_of_getElem? (i := 297) (by decide +kernel), List.mem_of_getElem? (i := 298) (by decide +kernel)⟩
def lw_privs_1 : List (MethodName × Nat) := [(⟨"TableChanger", "isSeen", "(I)Z"⟩, 12), (⟨"TableChanger", "isInOld", "(I)Z"⟩, 12), (⟨"TableChanger", "isInShadow", "(I)Z"⟩, 12), (⟨"TableChanger", "isBehind", "(I)Z"⟩, 12), (⟨"TableChanger", "broughtColumn", "(II)I"⟩, 12), (⟨"TableChanger", "fits", "(I)Z"⟩, 12), (⟨"TableChanger", "alteredColumn", "(III)I"⟩, 12), (⟨"TableChanger", "alteredMiddle", "(II)I"⟩, 12), (⟨"TableChanger", "alteredLast", "(I)I"⟩, 12), (⟨"java/lang/Throwable", "fillInStackTrace", "(I)Ljava/lang/Throwable;"⟩, 6), (⟨"TableChanger", "canBeWritten", "(II)Z"⟩, 12), (⟨"TableChanger", "putRow", "(III)V"⟩, 12), (⟨"TableChanger", "followWrite", "(I)V"⟩, 12), (⟨"TableChanger", "noteKey", "(I)V"⟩, 12), (⟨"TableChanger", "bring", "(I)V"⟩, 12), (⟨"TableChanger", "rowAsNumber", "(I)I"⟩, 12)]
theorem lw_r1 : ∀ q ∈ lw_privs_1, lw_okq q := List.forall_mem_cons.mpr ⟨lw_p0, List.forall_mem_cons.mpr ⟨lw_p1, List.forall_mem_cons.mpr ⟨lw_p2, List.forall_mem_cons.mpr ⟨lw_p3, List.forall_mem_cons.mpr ⟨lw_p4, List.forall_mem_cons.mpr ⟨lw_p5, List.forall_mem_cons.mpr ⟨lw_p6, List.forall_mem_cons.mpr ⟨lw_p7, List.forall_mem_cons.mpr ⟨lw_p8, List.forall_mem_cons.mpr ⟨lw_p9, List.forall_mem_cons.mpr ⟨lw_p10, List.forall_mem_cons.mpr ⟨lw_p11, List.forall_mem_cons.mpr ⟨lw_p12, List.forall_mem_cons.mpr ⟨lw_p13, List.forall_mem_cons.mpr ⟨lw_p14, List.forall_mem_cons.mpr ⟨lw_p15, fun _ h => absurd h List.not_mem_nil⟩⟩⟩⟩⟩⟩⟩⟩⟩⟩⟩⟩⟩⟩⟩⟩
theorem lw_p16 : lw_okq (⟨"TableChanger", "removeRow", "(I)V"⟩, 12) := ⟨⟨by decide +kernel, by decide +kernel⟩, List.mem_of_getElem? (i := 14) (by decide +kernel), List.mem_of_getElem? (i := 301) (by decide +kernel), List.mem_of_getElem? (i := 302) (by decide +kernel)⟩
theorem lw_p17 : lw_okq (⟨"TableChanger", "copyChunk", "()I"⟩, 12) := ⟨⟨by decide +kernel, by decide +kernel⟩, List.mem_of_getElem? (i := 14) (by decide +kernel), List.mem_of_getElem? (i := 347) (by decide +kernel), List.mem_of_getElem? (i := 348) (by decide +kernel)⟩
theorem lw_p18 : lw_okq (⟨"TableChanger", "playNotes", "(I)I"⟩, 12) := ⟨⟨by decide +kernel, by decide +kernel⟩, List.mem_of_getElem? (i := 14) (by decide +kernel), List.mem_of_getElem? (i := 351) (by decide +kernel), List.mem_of_getElem? (i := 352) (by decide +kernel)⟩
theorem lw_p19 : lw_okq (⟨"TableChanger", "removeRowsWithoutShadow", "()I"⟩, 12) := ⟨⟨by decide +kernel, by decide +kernel⟩, List.mem_of_getElem? (i := 14) (by decide +kernel), List.mem_of_getElem? (i := 382) (by decide +kernel), List.mem_of_getElem? (i := 383) (by decide +kernel)⟩
theorem lw_p20 : lw_okq (⟨"TableChanger", "endChange", "()V"⟩, 12) := ⟨⟨by decide +kernel, by decide +kernel⟩, List.mem_of_getElem? (i := 14) (by decide +kernel), List.mem_of_getElem? (i := 386) (by decide +kernel), List.mem_of_getElem? (i := 387) (by decide +kernel)⟩
theorem lw_p21 : lw_okq (⟨"TableChangerModel", "faultOf", "(III)I"⟩, 13) := ⟨⟨by decide +kernel, by decide +kernel⟩, List.mem_of_getElem? (i := 438) (by decide +kernel), List.mem_of_getElem? (i := 492) (by decide +kernel), List.mem_of_getElem? (i := 493) (by decide +kernel)⟩
theorem lw_p22 : lw_okq (⟨"TableChangerModel", "suits", "(I)Z"⟩, 13) := ⟨⟨by decide +kernel, by decide +kernel⟩, List.mem_of_getElem? (i := 438) (by decide +kernel), List.mem_of_getElem? (i := 502) (by decide +kernel), List.mem_of_getElem? (i := 503) (by decide +kernel)⟩
theorem lw_p23 : lw_okq (⟨"TableChangerModel", "isSeen", "(I)Z"⟩, 13) := ⟨⟨by decide +kernel, by decide +kernel⟩, List.mem_of_getElem? (i := 438) (by decide +kernel), List.mem_of_getElem? (i := 506) (by decide +kernel), List.mem_of_getElem? (i := 507) (by decide +kernel)⟩
theorem lw_p24 : lw_okq (⟨"TableChangerModel", "can", "(I)Z"⟩, 13) := ⟨⟨by decide +kernel, by decide +kernel⟩, List.mem_of_getElem? (i := 438) (by decide +kernel), List.mem_of_getElem? (i := 510) (by decide +kernel), List.mem_of_getElem? (i := 511) (by decide +kernel)⟩
theorem lw_p25 : lw_okq (⟨"TableChangerModel", "writes", "(II)V"⟩, 13) := ⟨⟨by decide +kernel, by decide +kernel⟩, List.mem_of_getElem? (i := 438) (by decide +kernel), List.mem_of_getElem? (i := 514) (by decide +kernel), List.mem_of_getElem? (i := 515) (by decide +kernel)⟩
theorem lw_p26 : lw_okq (⟨"TableChangerModel", "wrote", "(I)V"⟩, 13) := ⟨⟨by decide +kernel, by decide +kernel⟩, List.mem_of_getElem? (i := 438) (by decide +kernel), List.mem_of_getElem? (i := 518) (by decide +kernel), List.mem_of_getElem? (i := 519) (by decide +kernel)⟩
theorem lw_p27 : lw_okq (⟨"TableChangerModel", "brings", "(I)V"⟩, 13) := ⟨⟨by decide +kernel, by decide +kernel⟩, List.mem_of_getElem? (i := 438) (by decide +kernel), List.mem_of_getElem? (i := 522) (by decide +kernel), List.mem_of_getElem? (i := 523) (by decide +kernel)⟩
theorem lw_p28 : lw_okq (⟨"TableChangerModel", "altered", "(II)I"⟩, 13) := ⟨⟨by decide +kernel, by decide +kernel⟩, List.mem_of_getElem? (i := 438) (by decide +kernel), List.mem_of_getElem? (i := 526) (by decide +kernel), List.mem_of_getElem? (i := 527) (by decide +kernel)⟩
theorem lw_p29 : lw_okq (⟨"TableChangerModel", "clears", "()V"⟩, 13) := ⟨⟨by decide +kernel, by decide +kernel⟩, List.mem_of_getElem? (i := 438) (by decide +kernel), List.mem_of_getElem? (i := 549) (by decide +kernel), List.mem_of_getElem? (i := 550) (by decide +kernel)⟩
theorem lw_p30 : lw_okq (⟨"TableChangerModel", "plays", "(I)V"⟩, 13) := ⟨⟨by decide +kernel, by decide +kernel⟩, List.mem_of_getElem? (i := 438) (by decide +kernel), List.mem_of_getElem? (i := 561) (by decide +kernel), List.mem_of_getElem? (i := 562) (by decide +kernel)⟩
theorem lw_p31 : lw_okq (⟨"TableChangerModel", "shadowed", "()I"⟩, 13) := ⟨⟨by decide +kernel, by decide +kernel⟩, List.mem_of_getElem? (i := 438) (by decide +kernel), List.mem_of_getElem? (i := 581) (by decide +kernel), List.mem_of_getElem? (i := 582) (by decide +kernel)⟩
def lw_privs_2 : List (MethodName × Nat) := [(⟨"TableChanger", "removeRow", "(I)V"⟩, 12), (⟨"TableChanger", "copyChunk", "()I"⟩, 12), (⟨"TableChanger", "playNotes", "(I)I"⟩, 12), (⟨"TableChanger", "removeRowsWithoutShadow", "()I"⟩, 12), (⟨"TableChanger", "endChange", "()V"⟩, 12), (⟨"TableChangerModel", "faultOf", "(III)I"⟩, 13), (⟨"TableChangerModel", "suits", "(I)Z"⟩, 13), (⟨"TableChangerModel", "isSeen", "(I)Z"⟩, 13), (⟨"TableChangerModel", "can", "(I)Z"⟩, 13), (⟨"TableChangerModel", "writes", "(II)V"⟩, 13), (⟨"TableChangerModel", "wrote", "(I)V"⟩, 13), (⟨"TableChangerModel", "brings", "(I)V"⟩, 13), (⟨"TableChangerModel", "altered", "(II)I"⟩, 13), (⟨"TableChangerModel", "clears", "()V"⟩, 13), (⟨"TableChangerModel", "plays", "(I)V"⟩, 13), (⟨"TableChangerModel", "shadowed", "()I"⟩, 13)]
theorem lw_r2 : ∀ q ∈ lw_privs_2, lw_okq q := List.forall_mem_cons.mpr ⟨lw_p16, List.forall_mem_cons.mpr ⟨lw_p17, List.forall_mem_cons.mpr ⟨lw_p18, List.forall_mem_cons.mpr ⟨lw_p19, List.forall_mem_cons.mpr ⟨lw_p20, List.forall_mem_cons.mpr ⟨lw_p21, List.forall_mem_cons.mpr ⟨lw_p22, List.forall_mem_cons.mpr ⟨lw_p23, List.forall_mem_cons.mpr ⟨lw_p24, List.forall_mem_cons.mpr ⟨lw_p25, List.forall_mem_cons.mpr ⟨lw_p26, List.forall_mem_cons.mpr ⟨lw_p27, List.forall_mem_cons.mpr ⟨lw_p28, List.forall_mem_cons.mpr ⟨lw_p29, List.forall_mem_cons.mpr ⟨lw_p30, List.forall_mem_cons.mpr ⟨lw_p31, fun _ h => absurd h List.not_mem_nil⟩⟩⟩⟩⟩⟩⟩⟩⟩⟩⟩⟩⟩⟩⟩⟩
theorem lw_p32 : lw_okq (⟨"TableChangerModel", "isEven", "(I)Z"⟩, 13) := ⟨⟨by decide +kernel, by decide +kernel⟩, List.mem_of_getElem? (i := 438) (by decide +kernel), List.mem_of_getElem? (i := 624) (by decide +kernel), List.mem_of_getElem? (i := 625) (by decide +kernel)⟩
def lw_privs_3 : List (MethodName × Nat) := [(⟨"TableChangerModel", "isEven", "(I)Z"⟩, 13)]
theorem lw_r3 : ∀ q ∈ lw_privs_3, lw_okq q := List.forall_mem_cons.mpr ⟨lw_p32, fun _ h => absurd h List.not_mem_nil⟩
def lw_privs : List (MethodName × Nat) := lw_privs_1 ++ (lw_privs_2 ++ (lw_privs_3))
def lw_tbl : List Cond := k2_sels lw_privs ++ tables_1
theorem lw_privs_ok : ∀ q ∈ lw_privs, lw_okq q := by
  show ∀ q ∈ lw_privs_1 ++ (lw_privs_2 ++ (lw_privs_3)), lw_okq q
  exact List.forall_mem_append.mpr ⟨lw_r1, List.forall_mem_append.mpr ⟨lw_r2, lw_r3⟩⟩
-- ===== end of PART A; then your names; then what follows =====
end
section
/-! ===== BEGIN words of one list among another's, by their places ===== -/
theorem goodIn_r {big : List Cond} (ws : List Cond) (ps : List Nat) (hp : ws = ps.filterMap (fun i => big[i]?)) (h : ws.all goodWord = true) : GoodIn big ws := by
  intro w hw
  have h1 := List.all_eq_true.mp h w hw
  rw [hp] at hw
  obtain ⟨i, -, hi⟩ := List.mem_filterMap.mp hw
  have hm : w ∈ big := by first | exact List.mem_of_getElem? hi | exact List.getElem?_mem hi
  exact ⟨hm, good_of_word h1⟩
theorem goodIn_app {big a b : List Cond} (ha : GoodIn big a) (hb : GoodIn big b) : GoodIn big (a ++ b) := fun w h => (List.mem_append.mp h).elim (ha w) (hb w)
theorem goodIn_ca {big a b : List Cond} {c : Cond} (ha : GoodIn big (c :: a)) (hb : GoodIn big b) : GoodIn big (c :: (a ++ b)) := fun w h => (List.mem_cons.mp h).elim (fun e => ha w (List.mem_cons.mpr (Or.inl e))) (fun h => (List.mem_append.mp h).elim (fun h => ha w (List.mem_cons.mpr (Or.inr h))) (hb w))
theorem goodIn_sub {big ws : List Cond} (hm : ∀ w ∈ ws, w ∈ big) (h : ws.all goodWord = true) : GoodIn big ws := fun w hw => ⟨hm w hw, good_of_word (List.all_eq_true.mp h w hw)⟩
/-! ===== END ===== -/

/-- (mine: NAMES.whole names va_AOA, no text defines it) the array class over arrays is there -/
def va_AOA (ty : FieldType) (U : State) : Prop := (Cond.arrayOver (.array ty)).before #[] U = true
theorem va_AOA.of {ty : FieldType} {A : Array Value} {U : State} (h : (Cond.arrayOver (.array ty)).before A U = true) : va_AOA ty U := h
theorem va_AOA.use {ty : FieldType} {A : Array Value} {U : State} (h : va_AOA ty U) : (Cond.arrayOver (.array ty)).before A U = true := h
theorem va_AOA.moved {ty : FieldType} {u U : State} (hvm : u.vm.Alike U.vm) (h : va_AOA ty u) : va_AOA ty U := by
  unfold va_AOA Cond.before at *
  exact Stand.arrayOver_alikeB hvm h
/-! ===== BEGIN new T[n][m]: the outer array a place, the inner ones among the pooled ===== -/
/-- f, but v at every address of l -/
def vr_up {α : Type} (f : Nat → α) (l : List Nat) (v : α) : Nat → α := fun a => if a ∈ l then v else f a
theorem vr_up_in {α : Type} {f : Nat → α} {l : List Nat} {v : α} {a : Nat} (h : a ∈ l) : vr_up f l v a = v := if_pos h
theorem vr_up_ne {α : Type} {f : Nat → α} {l : List Nat} {v : α} {a : Nat} (h : a ∉ l) : vr_up f l v a = f a := if_neg h
theorem vr_rows {L l : List Nat} {f : Nat → va_E} {e : va_E} (h : ∀ a, a ∈ l → a ∉ L) : va_pl L f ++ l.map (fun a => (a, e)) = va_pl (L ++ l) (vr_up f l e) := by
  unfold va_pl
  rw [List.map_append]
  congr 1
  · apply List.map_congr_left
    intro a ha
    rw [vr_up_ne (fun q => h a q ha)]
  · apply List.map_congr_left
    intro a ha
    rw [vr_up_in ha]
theorem vr_lay {X rows : va_W} {x : Nat × va_E} {pl : va_W} {D : va_G} {cl : List vw_C} {H : Heap} (hP : va_P D cl (((X ++ pl) ++ [x]) ++ rows) H) : va_P D cl ((X ++ [x]) ++ (pl ++ rows)) H := by
  rw [List.append_assoc (X ++ pl)] at hP
  have h := va_P.swap hP
  rw [← List.append_assoc X] at h
  have h2 := va_P.swap h
  rw [List.append_assoc (X ++ [x])] at h2
  exact h2
theorem vr_layD {X rows : va_W} {x : Nat × va_E} {pl : va_W} {A : Nat → Prop} (hD : va_D A (((X ++ pl) ++ [x]) ++ rows)) : va_D A ((X ++ [x]) ++ (pl ++ rows)) := by
  rw [List.append_assoc (X ++ pl)] at hD
  have h := va_D.swap hD
  rw [← List.append_assoc X] at h
  have h2 := va_D.swap h
  rw [List.append_assoc (X ++ [x])] at h2
  exact h2
theorem vr_outer (c : ClassId) (N h0 : Nat) : ∀ i : Nat, Jvm.Free.Multi.outerC c N h0 i = arrV c N (fun j => va_rf (if j < i then some (h0 + 1 + j) else none))
  | 0 => by
    show ({ cls := c, slots := Array.replicate N .null, vm := .none } : Cell) = _
    rw [arrV_new]
    refine congrArg (arrV c N) (funext fun j => ?_)
    simp [va_rf]
  | i + 1 => by
    show (Jvm.Free.Multi.outerC c N h0 i).setSlot i (.ref (h0 + 1 + i)) = _
    rw [vr_outer c N h0 i, arrV_store]
    refine congrArg (arrV c N) (funext fun j => ?_)
    by_cases e : j = i
    · subst e
      simp [updV, va_rf]
    · by_cases h : j < i
      · simp [updV, e, h, Nat.lt_succ_of_lt h]
      · simp [updV, e, h, show ¬ j < i + 1 by omega]
section VGM
variable {p : Program} {l : Launch} {e : Env} {R : Room} {s : State} {m : MethodId} {args : Array Value} {below : List Frame} {meth : Method} {c : Code} {H : Heap} {locs : List Loc} {cells slots : Nat} {Q : State → Prop}
variable {cc : ByteArray} {pc : Nat} {ls : Array Slot} {rest : List Value} {D : va_G} {cl : List vw_C} {A : Nat → Prop} {a : Nat} {tys : List (ClassId × FieldType)} {ws : va_W} {H0 : Heap}
theorem va_mna {X : va_W} {L : List Nat} {f : Nat → va_E} {cc : ByteArray} (hexec : p.tables.exec = Jvm.exec) (hb : c.code = cc) {own : String} {index : Nat} {ty : FieldType} {cy : ClassId} (hown : s.vm.findClass own = some m.cls) (hclink : (Cond.classLink own index ("[" ++ (FieldType.array ty).toString)).before args s = true) (hover : va_AOA ty s) (harr : (Cond.arrayClass ty).before args s = true) (hcy : s.vm.findClass (FieldType.array ty).toString = some cy)
    (hK : va_K D cl tys s) (hP : va_P D cl (X ++ va_pl L f) H) (hD : va_D A (X ++ va_pl L f)) (hS : va_S A H0 H locs) (hA : ∀ q, H0.size ≤ q → A q) {n k : Int32} {N' K' : Nat} {z : vp_A} (hn : ¬ n < 0) (hk : ¬ k < 0) (hN : n.toNatClampNeg = N') (hM : k.toNatClampNeg = K')
    (hb1 : N' * 4 ≤ 536870912) (hb2 : K' * componentBytes ty ≤ 536870912) (hb3 : K' ≤ 536870912) (hdf : fits ty (defaultValue ty) = true) (hdd : (defaultValue ty).isDefault = true) (hcells : cells + (1 + N') ≤ R.cells) (hslots : slots + (N' + N' * K') ≤ R.slots) (hz : ∀ c : ClassId, Jvm.Free.Multi.innerC c K' (defaultValue ty) = vp_cell c z) (hdg : decode cc pc = .ok (.multianewarray index 2, 4))
    (kk : ∀ (q : Nat) (r : Nat → Nat) (cA : ClassId) (H1 : Heap), (∀ i j : Nat, i < N' → j < N' → r i = r j → i = j) → (∀ i : Nat, i < N' → r i ∉ L) → va_K D cl (tys ++ [(cA, .array ty)]) s →
      va_P D cl ((X ++ [(q, .inl (cA, N', .inr (.inr (.inr (.inr (fun i => if i < N' then some (r i) else none))))))]) ++ va_pl (L ++ (List.range N').map r) (vr_up f ((List.range N').map r) (.inl (cy, z)))) H1 → va_D A ((X ++ [(q, .inl (cA, N', .inr (.inr (.inr (.inr (fun i => if i < N' then some (r i) else none))))))]) ++ va_pl (L ++ (List.range N').map r) (vr_up f ((List.range N').map r) (.inl (cy, z)))) → va_S A H0 H1 locs →
      W p l e R s m args below meth c H1 locs (cells + 1 + N') (slots + N' + N' * K') Q (F0 m (pc + 4) ls (.ref q :: rest))) : W p l e R s m args below meth c H locs cells slots Q (F0 m pc ls (.int k :: .int n :: rest)) := by
  subst hN
  subst hM
  intro T hT Xs
  obtain ⟨vm₁, cA, comp, -, fA, fC, hO, -, X', step⟩ := Xs.multianewarray2F hexec hown hclink (va_AOA.use hover) harr (g := F0 m pc ls (.int k :: .int n :: rest)) rfl (by rw [hb]; exact hdg) rfl hn hk hb1 hb2 hb3 hdf hdd hcells hslots
  have ec : some cy = some comp := hcy.symm.trans fC
  cases ec
  generalize hF : Jvm.Free.Multi.fill (T.setVm vm₁) cA cy n.toNatClampNeg k.toNatClampNeg (defaultValue ty) n.toNatClampNeg = F at X' step
  have hTh : (T.setVm vm₁).heap = H := hT
  obtain ⟨f1, f2, -, -⟩ := Jvm.Free.Multi.fill_facts (T.setVm vm₁) cA cy n.toNatClampNeg k.toNatClampNeg (defaultValue ty) n.toNatClampNeg
  rw [hF, hTh] at f1 f2
  have hold : ∀ x : Nat, x < H.size → F.heap[x]? = H[x]? := fun x hx => by
    have := Jvm.Free.Multi.fill_old (T.setVm vm₁) cA cy n.toNatClampNeg k.toNatClampNeg (defaultValue ty) (a := x) (by rw [hTh]; exact hx) n.toNatClampNeg
    rw [hF, hTh] at this
    exact this
  have hrow : ∀ j : Nat, j < n.toNatClampNeg → F.heap[H.size + 1 + j]? = some (vp_cell cy z) := fun j hj => by
    have := Jvm.Free.Multi.fill_inner (T.setVm vm₁) cA cy n.toNatClampNeg k.toNatClampNeg (defaultValue ty) n.toNatClampNeg j hj
    rw [hF, hTh, hz] at this
    exact this
  have hout : Jvm.Free.Multi.outerC cA n.toNatClampNeg H.size n.toNatClampNeg = vp_cell cA (n.toNatClampNeg, .inr (.inr (.inr (.inr (fun i => if i < n.toNatClampNeg then some (H.size + 1 + i) else none))))) := by
    rw [vp_cell_q]
    exact vr_outer cA n.toNatClampNeg H.size n.toNatClampNeg
  rw [hout] at f2
  have hlt : ∀ a, a ∈ L → a < H.size := fun a ha => by
    obtain ⟨k9, hk9⟩ := va_pl_get (X := X) (f := f) ha
    exact (hP k9 _ hk9).lt
  have hnl : ∀ i : Nat, i < n.toNatClampNeg → H.size + 1 + i ∉ L := fun i _ h => by
    have := hlt _ h
    omega
  have hnm : ∀ a, a ∈ (List.range n.toNatClampNeg).map (fun i => H.size + 1 + i) → a ∉ L := fun a ha h => by
    obtain ⟨i, -, rfl⟩ := List.mem_map.mp ha
    have := hlt _ h
    omega
  have hP0 : va_P D cl (X ++ va_pl L f) F.heap := hP.kept (fun k9 x hx => hold x.1 ((hP k9 x hx).lt))
  have hP1 : va_P D cl ((X ++ va_pl L f) ++ [(H.size, .inl (cA, n.toNatClampNeg, .inr (.inr (.inr (.inr (fun i => if i < n.toNatClampNeg then some (H.size + 1 + i) else none))))))]) F.heap := hP0.app (fun k9 x hx => by
    have h0 : k9 < 1 := (List.getElem?_eq_some_iff.mp hx).1
    rw [show k9 = 0 by omega] at hx
    cases hx
    exact f2)
  have hP2 : va_P D cl (((X ++ va_pl L f) ++ [(H.size, .inl (cA, n.toNatClampNeg, .inr (.inr (.inr (.inr (fun i => if i < n.toNatClampNeg then some (H.size + 1 + i) else none))))))]) ++ ((List.range n.toNatClampNeg).map (fun i => H.size + 1 + i)).map (fun a => (a, .inl (cy, z)))) F.heap := hP1.app (fun k9 x hx => by
    obtain ⟨a, ha, rfl⟩ := List.mem_map.mp (List.mem_of_getElem? hx)
    obtain ⟨i, hi, rfl⟩ := List.mem_map.mp ha
    exact hrow i (List.mem_range.mp hi))
  have hD2 : va_D A (((X ++ va_pl L f) ++ [(H.size, .inl (cA, n.toNatClampNeg, .inr (.inr (.inr (.inr (fun i => if i < n.toNatClampNeg then some (H.size + 1 + i) else none))))))]) ++ ((List.range n.toNatClampNeg).map (fun i => H.size + 1 + i)).map (fun a => (a, .inl (cy, z)))) := by
    have hD1 := hD.push (e := .inl (cA, n.toNatClampNeg, .inr (.inr (.inr (.inr (fun i => if i < n.toNatClampNeg then some (H.size + 1 + i) else none)))))) hP rfl (hA _ hS.1)
    generalize hW1 : (X ++ va_pl L f) ++ [(H.size, .inl (cA, n.toNatClampNeg, .inr (.inr (.inr (.inr (fun i => if i < n.toNatClampNeg then some (H.size + 1 + i) else none))))))] = W1 at hD1 hP1 ⊢
    have hle : ∀ (k9 : Nat) (x : Nat × va_E), W1[k9]? = some x → x.1 ≤ H.size := fun k9 x hx => by
      rw [← hW1] at hx
      by_cases hl : k9 < (X ++ va_pl L f).length
      · rw [List.getElem?_append_left hl] at hx
        exact Nat.le_of_lt ((hP k9 x hx).lt)
      · rw [List.getElem?_append_right (by omega)] at hx
        have h0 : k9 - (X ++ va_pl L f).length < 1 := (List.getElem?_eq_some_iff.mp hx).1
        rw [show k9 - (X ++ va_pl L f).length = 0 by omega] at hx
        cases hx
        exact Nat.le_refl _
    have hr : ∀ (k9 : Nat) (x : Nat × va_E), (((List.range n.toNatClampNeg).map (fun i => H.size + 1 + i)).map (fun a => ((a, .inl (cy, z)) : Nat × va_E)))[k9]? = some x → x.1 = H.size + 1 + k9 := fun k9 x hx => by
      rw [List.getElem?_map, List.getElem?_map] at hx
      by_cases h9 : k9 < n.toNatClampNeg
      · rw [List.getElem?_range h9] at hx
        cases hx
        rfl
      · have hn0 : (List.range n.toNatClampNeg)[k9]? = none := List.getElem?_eq_none (by rw [List.length_range]; omega)
        rw [hn0] at hx
        cases hx
    refine ⟨fun i j x y hi hj hxy => ?_, fun k9 x hx => ?_⟩
    · by_cases h1 : i < W1.length <;> by_cases h2 : j < W1.length
      · rw [List.getElem?_append_left h1] at hi
        rw [List.getElem?_append_left h2] at hj
        exact hD1.1 i j x y hi hj hxy
      · rw [List.getElem?_append_left h1] at hi
        rw [List.getElem?_append_right (by omega)] at hj
        have := hle _ _ hi
        have := hr _ _ hj
        omega
      · rw [List.getElem?_append_right (by omega)] at hi
        rw [List.getElem?_append_left h2] at hj
        have := hle _ _ hj
        have := hr _ _ hi
        omega
      · rw [List.getElem?_append_right (by omega)] at hi hj
        have := hr _ _ hi
        have := hr _ _ hj
        omega
    · by_cases h1 : k9 < W1.length
      · rw [List.getElem?_append_left h1] at hx
        exact hD1.2 k9 x hx
      · rw [List.getElem?_append_right (by omega)] at hx
        have := hr _ _ hx
        exact hA _ (by have := hS.1; omega)
  have hAr : ArrOfT s cA (.array ty) := fun N9 z9 => by
    obtain ⟨-, k9, hk9, cm9, hkk9⟩ := (hO 0 0 0).1
    exact ⟨(fun q hq => by cases hq), k9, hk9, cm9, hkk9⟩
  have hK2 : va_K D cl (tys ++ [(cA, .array ty)]) s := ⟨hK.1, fun k9 x hx => by
    by_cases hl : k9 < tys.length
    · rw [List.getElem?_append_left hl] at hx
      exact hK.2 k9 x hx
    · rw [List.getElem?_append_right (by omega)] at hx
      have h0 : k9 - tys.length < 1 := (List.getElem?_eq_some_iff.mp hx).1
      rw [show k9 - tys.length = 0 by omega] at hx
      cases hx
      exact ⟨hAr, fA⟩⟩
  obtain ⟨t, a1, b1⟩ := kk H.size (fun i => H.size + 1 + i) cA F.heap (fun i j _ _ h => by have h9 : H.size + 1 + i = H.size + 1 + j := h; omega) hnl hK2 (by rw [← vr_rows hnm]; exact vr_lay hP2) (by rw [← vr_rows hnm]; exact vr_layD hD2) ⟨by rw [f1]; have := hS.1; omega, fun x h1 h2 => (hold x (Nat.lt_of_lt_of_le h1 hS.1)).trans (hS.2.1 x h1 h2), hS.2.2⟩ F rfl X'
  refine ⟨t, step t ?_, b1⟩
  have e : T.heap.size = H.size := by rw [hT]
  rw [e]
  exact a1
end VGM
/-! ===== END ===== -/

/-! ===== BEGIN exceptions that leave a method, and their catching by the caller (launches without stack traces) ===== -/
section VXA
/-! The laws vx_back, vx_callV, vx_callS, vx_callSW, vx_throw0, vx_throwS follow proofs of the library, with one case more: JvmDerived/Free/Laws.lean (Back.of_free), Shelf42/LK1.lean (callV, callS), Shelf/KitTraced.lean (throwNew0V, throwNewS). -/
/-- where a method has thrown q: the class by its name, the cell, what was written, the world -/
def vx_T (XC : String → State → State → Prop) (st : State) (q : Addr) (t : State) (mc ms : Nat) (free : Addr → Prop) : Prop :=
  ∃ (E : String) (ce : Cell) (L : List Loc), XC E st t ∧ t.heap[q]? = some ce ∧ ce.vm = .none ∧ st.vm.findClass E = some ce.cls ∧ st.WarmedH t.vm ∧ st.sameButNew ({ t with vm := st.vm } : State) L mc ms ∧ ∀ z ∈ L, free z.base
def vx_Q (Qc : Array Value → State → Outcome → State → Prop) (XC : String → State → State → Prop) (mc ms : Nat) (free : Addr → Prop) : Array Value → State → Outcome → State → Prop := fun a st o t =>
  (Qc a st o t ∧ ∃ L, FrameEnd st o t L mc ms ∧ ∀ q ∈ L, free q.base) ∨ ∃ q, o = .threw q ∧ vx_T XC st q t mc ms free
/-- a callee that returns or throws -/
def vx_Met (l : Launch) (y : MethodName) (ws : List Cond) (rm : Room) (Pc : Array Value → State → Prop) (Qc : Array Value → State → Outcome → State → Prop) (XC : String → State → State → Prop) (mc ms : Nat) (free : Addr → Prop) : Prop :=
  MetFree l y (headSpec ws rm) Pc (fun _ _ _ _ _ => True) (vx_Q Qc XC mc ms free)
def vx_Post (XC : String → State → State → Prop) (mc ms : Nat) (free : Addr → Prop) : Pt → Array Value → Addr → Pt → Prop := fun A a q B =>
  ∃ (g : JFrame) (mk : MethodId) (t : State) (L : List Loc) (E : String) (ce : Cell), B.U.heap = t.heap ∧ B.U.vm = t.vm ∧ XC E (A.U.calling g mk a) t ∧ t.heap[q]? = some ce ∧ ce.vm = .none ∧ A.U.vm.findClass E = some ce.cls ∧ B.locs = A.locs ++ L ∧ (∀ z ∈ L, free z.base) ∧ B.cells = A.cells + mc ∧ B.slots = A.slots + ms
def vx_Back (l : Launch) (R : Room) (p : Program) (e : Env) (below : List Frame) (s : State) (sargs : Array Value) (y : MethodName) (len W9 : Nat)
    (Pre : Pt → Array Value → Prop) (Post : Pt → Array Value → Option Value → Pt → Prop) (PostX : Pt → Array Value → Addr → Pt → Prop) : Prop :=
  ∀ (m : MethodId) (meth : Method) (c : Code) (A : Pt) (g : JFrame) (ig : Instr) (mk : MethodId) (a : Array Value),
    Stand p l e R s m sargs below meth c A.U A.locs A.cells A.slots → g.method = m → g.locals.size = c.maxLocals → decode c.code g.pc = .ok (ig, len) →
    2 * g.monitorRoom + (g.stack.map fun v => v.category).sum ≤ W9 → A.U.methodNamed? y = some mk → Pre A a →
    (∃ (v : Option Value) (B : Pt), Stand p l e R s m sargs below meth c B.U B.locs B.cells B.slots ∧ Post A a v B ∧
      Steps p.tables e below (doInvoke e (A.U.setTop g) [] mk a).1 (B.U.setTop { g with pc := g.pc + len, stack := v.toList ++ g.stack })) ∨
    (∃ (q : Addr) (B : Pt), Stand p l e R s m sargs below meth c B.U B.locs B.cells B.slots ∧ PostX A a q B ∧
      Steps p.tables e below (doInvoke e (A.U.setTop g) [] mk a).1 ((B.U.setTop g).pushFrame (.throwing q)))
section Payer
variable {l : Launch} {R : Room} {p : Program} {e : Env} {below : List Frame} {s : State} {sargs : Array Value} {y : MethodName} {len W9 : Nat}
theorem vx_back {ws : List Cond} {rm : Room} {Pc : Array Value → State → Prop} {Qc : Array Value → State → Outcome → State → Prop} {XC : String → State → State → Prop} {mc ms : Nat} {free : Addr → Prop} {bytes : ByteArray} {maxL : Nat} {ret : Option FieldType}
    (hM : vx_Met l y ws rm Pc Qc XC mc ms free) (hblind : FrameBlind Pc) (hrc : rm.cells = mc) (hrs : rm.slots = ms)
    (hframes : rm.frames + 1 ≤ R.frames) (hlocals : W9 + (maxL + 11) + rm.locals ≤ R.locals)
    (hws : ∀ w ∈ ws, ∀ a' U, s.WarmedH U.vm → w.before a' U = true) (hcode : Cond.code y bytes maxL ret ∈ ws) (hinit : ∀ a' U, s.WarmedH U.vm → (Cond.initialized y.cls).before a' U = true) :
    vx_Back l R p e below s sargs y len W9 (PreOf R mc ms Pc) (PostOf Qc mc ms free) (vx_Post XC mc ms free) := by
  intro m meth c A g ig mk a X hg hsize hdg hW hn hp
  have h1 : (headSpec ws rm).pre.before a A.U = true := atoms_intro fun w hw => hws w hw _ _ X.warmed
  have h2 : (Cond.code y bytes maxL ret).before a A.U = true := hws _ hcode _ _ X.warmed
  have h3 : (Cond.initialized y.cls).before a A.U = true := hinit _ _ X.warmed
  have h4 : A.cells + (headSpec ws rm).room.cells ≤ R.cells := by rw [show (headSpec ws rm).room.cells = mc from hrc]; exact hp.1
  have h5 : A.slots + (headSpec ws rm).room.slots ≤ R.slots := by rw [show (headSpec ws rm).room.slots = ms from hrs]; exact hp.2.1
  have hPc : Pc a (A.U.calling g mk a) := hblind _ _ _ _ hp.2.2
  obtain ⟨U, Ls, c0, s0⟩ := A
  dsimp only [Pt.U, Pt.locs, Pt.cells, Pt.slots] at h1 h2 h3 h4 h5 X hn hPc ⊢
  obtain ⟨methY, cY, hmY, hcY, -, hlY, -, -, -, -⟩ := Cond.code_spec hn h2
  obtain ⟨kY, hkY, -⟩ := className_of_methodNamed hn
  have hinitY : kY.init = .initialized := Cond.initialized_spec (findClass_of_methodNamed hn) hkY h3
  have h : At U g.method c below := by rw [hg]; exact X.here
  have hlocals9 : W9 + (maxL + 11) + (headSpec ws rm).room.locals ≤ R.locals := hlocals
  have happ : (headSpec ws rm).appliesLoose y e.platform (U.calling g mk a) = true :=
    Spec.appliesLoose_calling (g := g) h hdg hn hkY hinitY
      (X.room_calling (g := g) (R' := (headSpec ws rm).room) hsize hmY hcY hframes (by rw [hlY]; omega) h4 h5) h1
  obtain ⟨mid, hmid⟩ := h.above
  have hfr : (U.setTop g).frames = (.java g :: mid) ++ below := by rw [State.frames_setTop' g h.top, hmid]; rfl
  obtain ⟨o, s₂, hsteps, -, hend, hq⟩ := Steps.callFree hM p X.admits X.cas X.clock (acts := []) hfr happ hPc trivial
  have hq' : vx_Q Qc XC mc ms free a (U.calling g mk a) o s₂ := hq
  rw [State.frames_setTop' g h.top] at hend
  obtain ⟨g₀, hg0⟩ := Option.isSome_iff_exists.mp h.top
  obtain ⟨r, hr⟩ := State.topJava?_eq_some.mp hg0
  have hr' : (({ U with heap := s₂.heap, slotsUsed := s₂.slotsUsed } : State).setVm s₂.vm).frames = .java g₀ :: r := hr
  rcases hq' with ⟨hqc, L, hfe, hL⟩ | ⟨q, rfl, E, ce, L, hx, hce, hcv, hcl, hW₂, hsm, hL⟩
  · obtain ⟨⟨v, rfl⟩, hW₂, e2, q2, q3, q4, q5, q6⟩ := id hfe
    have e3 : s₂ = ({ (U.calling g mk a).setFrames s₂.frames with heap := s₂.heap, slotsUsed := s₂.slotsUsed } : State).setVm s₂.vm := by
      have : s₂ = ({ s₂ with vm := (U.calling g mk a).vm } : State).setVm s₂.vm := rfl
      rw [e2] at this
      exact this
    obtain ⟨c₂, i₂, len₂, hc₂, hd₂, hf₂⟩ := hend
    have hW' : U.WarmedH s₂.vm := hW₂
    have hcc : c₂ = c := by
      have h1 : s₂.code? g.method = U.code? g.method := by
        rw [State.code?_eq, State.code?_eq, hW'.alike.method?]
      exact Option.some.inj (hc₂.symm.trans (h1.trans h.code))
    subst hcc
    have hlen : len₂ = len := by rw [hdg] at hd₂; cases hd₂; rfl
    subst hlen
    have hs₂ : s₂ = (({ U with heap := s₂.heap, slotsUsed := s₂.slotsUsed } : State).setVm s₂.vm).setTop { g with pc := g.pc + len₂, stack := v.toList ++ g.stack } := by
      refine e3.trans ?_
      rw [hf₂, State.calling_eq h.top, State.setFrames_setFrames, State.setTop_of_frames _ hr', hr]
      rfl
    have hsame : U.sameButNew ({ U with heap := s₂.heap, slotsUsed := s₂.slotsUsed } : State) L mc ms := by
      refine ⟨?_, q2, q3, q4, q5, q6⟩
      obtain ⟨t, ht, -⟩ := State.frames_cons hr
      show ({ U with heap := s₂.heap, slotsUsed := s₂.slotsUsed } : State) = { U.setFrames U.frames with heap := s₂.heap, slotsUsed := s₂.slotsUsed }
      rw [State.setFrames_self ht]
    subst hg
    refine Or.inl ⟨v, ⟨(({ U with heap := s₂.heap, slotsUsed := s₂.slotsUsed } : State).setVm s₂.vm), Ls ++ L, c0 + mc, s0 + ms⟩,
      ⟨X.admits, X.cas, X.clock, X.frames, X.room, X.hears, X.method, X.code, (X.here.setHeapUsed s₂.heap s₂.slotsUsed).setVm hW'.alike, X.tail, State.WarmedH.trans X.warmed hW', X.limits, X.bytes, X.same.trans (hsame.setVm s.vm)⟩,
      ⟨g, mk, s₂, L, rfl, rfl, hqc, rfl, hL, rfl, rfl⟩, ?_⟩
    show Steps p.tables e below _ ((({ U with heap := s₂.heap, slotsUsed := s₂.slotsUsed } : State).setVm s₂.vm).setTop { g with pc := g.pc + len₂, stack := v.toList ++ g.stack })
    rw [← hs₂]
    exact hsteps
  · obtain ⟨e2, q2, q3, q4, q5, q6⟩ := id hsm
    have e3 : s₂ = ({ (U.calling g mk a).setFrames s₂.frames with heap := s₂.heap, slotsUsed := s₂.slotsUsed } : State).setVm s₂.vm := by
      have : s₂ = ({ s₂ with vm := (U.calling g mk a).vm } : State).setVm s₂.vm := rfl
      rw [e2] at this
      exact this
    have hf₂ : s₂.frames = .throwing q :: .java g :: U.frames.tail := hend
    have hW' : U.WarmedH s₂.vm := hW₂
    have hs₂ : s₂ = ((({ U with heap := s₂.heap, slotsUsed := s₂.slotsUsed } : State).setVm s₂.vm).setTop g).pushFrame (.throwing q) := by
      refine e3.trans ?_
      rw [hf₂, State.calling_eq h.top, State.setFrames_setFrames, State.pushFrame, State.frames_setTop _ hr', State.setTop_of_frames _ hr', State.setFrames_setFrames, hr]
      rfl
    have hsame : U.sameButNew ({ U with heap := s₂.heap, slotsUsed := s₂.slotsUsed } : State) L mc ms := by
      refine ⟨?_, q2, q3, q4, q5, q6⟩
      obtain ⟨t, ht, -⟩ := State.frames_cons hr
      show ({ U with heap := s₂.heap, slotsUsed := s₂.slotsUsed } : State) = { U.setFrames U.frames with heap := s₂.heap, slotsUsed := s₂.slotsUsed }
      rw [State.setFrames_self ht]
    subst hg
    refine Or.inr ⟨q, ⟨(({ U with heap := s₂.heap, slotsUsed := s₂.slotsUsed } : State).setVm s₂.vm), Ls ++ L, c0 + mc, s0 + ms⟩,
      ⟨X.admits, X.cas, X.clock, X.frames, X.room, X.hears, X.method, X.code, (X.here.setHeapUsed s₂.heap s₂.slotsUsed).setVm hW'.alike, X.tail, State.WarmedH.trans X.warmed hW', X.limits, X.bytes, X.same.trans (hsame.setVm s.vm)⟩,
      ⟨g, mk, s₂, L, E, ce, rfl, rfl, hx, hce, hcv, hcl, rfl, hL, rfl, rfl⟩, ?_⟩
    show Steps p.tables e below _ (((({ U with heap := s₂.heap, slotsUsed := s₂.slotsUsed } : State).setVm s₂.vm).setTop g).pushFrame (.throwing q))
    rw [← hs₂]
    exact hsteps
end Payer
section Calls
variable {p : Program} {l : Launch} {e : Env} {R : Room} {s : State} {m : MethodId} {args : Array Value} {below : List Frame} {meth : Method} {c : Code} {T : State} {locs : List Loc} {cells slots : Nat}
theorem vx_callV (X : Stand p l e R s m args below meth c T locs cells slots) (hexec : p.tables.exec = Jvm.exec) {own C : String} {index : Nat} {y : MethodName} {bytes : ByteArray} {maxL : Nat} {ret : Option FieldType}
    (hown : s.vm.findClass own = some m.cls) (hlink : (Cond.methodLink own index y).before args s = true) (hinst : (Cond.instanceMethod y).before args s = true) (hsel : (Cond.selects C y y).before args s = true)
    (hcode : (Cond.code y bytes maxL ret).before args s = true) (hy : y.cls ≠ "java/lang/invoke/MethodHandle" ∧ y.cls ≠ "java/lang/invoke/VarHandle")
    {W9 : Nat} {Pre : Pt → Array Value → Prop} {Post : Pt → Array Value → Option Value → Pt → Prop} {PostX : Pt → Array Value → Addr → Pt → Prop} (hK : vx_Back l R p e below s args y 3 W9 Pre Post PostX)
    {b : Addr} {cellB : Cell} (hcell : T.heap[b]? = some cellB) (hobj : cellB.vm.isStatics = false) (hcls : s.vm.findClass C = some cellB.cls)
    {g : JFrame} (hg : g.method = m) (hsize : g.locals.size = c.maxLocals) {argsL rest : List Value} (hlen : ∀ sig, parseMethodDescriptor y.desc = some sig → argsL.length = sig.parameters.length)
    (hstack : g.stack = argsL.reverse ++ .ref b :: rest) (hW : 2 * g.monitorRoom + (rest.map fun v => v.category).sum ≤ W9) (hdg : decode c.code g.pc = .ok (.invokevirtual index, 3))
    (hpre : ∀ vm₁, s.WarmedH vm₁ → Pre ⟨T.setVm vm₁, locs, cells, slots⟩ (Value.ref b :: argsL).toArray) :
    (∃ (v : Option Value) (vm₁ : Vm) (B : Pt), s.WarmedH vm₁ ∧ Stand p l e R s m args below meth c B.U B.locs B.cells B.slots ∧ Post ⟨T.setVm vm₁, locs, cells, slots⟩ (Value.ref b :: argsL).toArray v B ∧
      ∀ target, Steps p.tables e below (B.U.setTop { g with pc := g.pc + 3, stack := v.toList ++ rest }) target → Steps p.tables e below (T.setTop g) target) ∨
    (∃ (q : Addr) (vm₁ : Vm) (B : Pt), s.WarmedH vm₁ ∧ Stand p l e R s m args below meth c B.U B.locs B.cells B.slots ∧ PostX ⟨T.setVm vm₁, locs, cells, slots⟩ (Value.ref b :: argsL).toArray q B ∧
      Steps p.tables e below (T.setTop g) ((B.U.setTop { g with stack := rest }).pushFrame (.throwing q))) := by
  obtain ⟨mk, methM, hnamed, hmethM, hstM, habM⟩ := Cond.instanceMethod_spec hinst
  obtain ⟨methM', cM, hmethM', -, -, -, -, -, -, hsigM⟩ := Cond.code_spec hnamed hcode
  cases hmethM.symm.trans hmethM'
  obtain ⟨c2, r2, m2, q1, q2, q3, q4, kP, hkP, hkPi⟩ := Cond.selects_spec hsel
  cases hcls.symm.trans q1
  cases (State.methodFound?_of_named hnamed hy).symm.trans q2
  cases hnamed.symm.trans q3
  have hselP : selectMethod e.platform s.vm cellB.cls mk = .method mk := by rw [Launch.admits_selectMethod X.admits]; exact q4
  obtain ⟨vm₁, X₁, hstep₁⟩ := X.invokevirtual hexec hown hlink hnamed hmethM hstM hkP hkPi hy (a := b) (cell := cellB) hcell
    (fun z h => by rw [h] at hobj; cases hobj) hselP hmethM habM hkP hkPi (g := g) hg (argsL := argsL) (rest := rest) (hlen _ hsigM) hstack hdg
  rcases hK m meth c ⟨T.setVm vm₁, locs, cells, slots⟩ { g with stack := rest } (.invokevirtual index) mk (Value.ref b :: argsL).toArray X₁ hg hsize hdg hW (X₁.named hnamed) (hpre vm₁ X₁.warmed) with ⟨v, B, X', hpost, hsteps⟩ | ⟨q, B, X', hpost, hsteps⟩
  · exact Or.inl ⟨v, vm₁, B, X₁.warmed, X', hpost, fun target h => hstep₁ _ fun acts => by rw [doInvoke_state]; exact hsteps.trans h⟩
  · exact Or.inr ⟨q, vm₁, B, X₁.warmed, X', hpost, hstep₁ _ fun acts => by rw [doInvoke_state]; exact hsteps⟩
theorem vx_callS (X : Stand p l e R s m args below meth c T locs cells slots) (hexec : p.tables.exec = Jvm.exec) {own : String} {index : Nat} {y : MethodName} {bytes : ByteArray} {maxL : Nat} {ret : Option FieldType}
    (hown : s.vm.findClass own = some m.cls) (hlink : (Cond.methodLink own index y).before args s = true) (hstat : (Cond.static y).before args s = true) (hinit : (Cond.initialized y.cls).before args s = true)
    (hcode : (Cond.code y bytes maxL ret).before args s = true) (hy : y.cls ≠ "java/lang/invoke/MethodHandle" ∧ y.cls ≠ "java/lang/invoke/VarHandle")
    {W9 : Nat} {Pre : Pt → Array Value → Prop} {Post : Pt → Array Value → Option Value → Pt → Prop} {PostX : Pt → Array Value → Addr → Pt → Prop} (hK : vx_Back l R p e below s args y 3 W9 Pre Post PostX)
    {g : JFrame} (hg : g.method = m) (hsize : g.locals.size = c.maxLocals) {argsL rest : List Value} (hlen : ∀ sig, parseMethodDescriptor y.desc = some sig → argsL.length = sig.parameters.length)
    (hstack : g.stack = argsL.reverse ++ rest) (hW : 2 * g.monitorRoom + (rest.map fun v => v.category).sum ≤ W9) (hdg : decode c.code g.pc = .ok (.invokestatic index, 3))
    (hpre : ∀ vm₁, s.WarmedH vm₁ → Pre ⟨T.setVm vm₁, locs, cells, slots⟩ argsL.toArray) :
    (∃ (v : Option Value) (vm₁ : Vm) (B : Pt), s.WarmedH vm₁ ∧ Stand p l e R s m args below meth c B.U B.locs B.cells B.slots ∧ Post ⟨T.setVm vm₁, locs, cells, slots⟩ argsL.toArray v B ∧
      ∀ target, Steps p.tables e below (B.U.setTop { g with pc := g.pc + 3, stack := v.toList ++ rest }) target → Steps p.tables e below (T.setTop g) target) ∨
    (∃ (q : Addr) (vm₁ : Vm) (B : Pt), s.WarmedH vm₁ ∧ Stand p l e R s m args below meth c B.U B.locs B.cells B.slots ∧ PostX ⟨T.setVm vm₁, locs, cells, slots⟩ argsL.toArray q B ∧
      Steps p.tables e below (T.setTop g) ((B.U.setTop { g with stack := rest }).pushFrame (.throwing q))) := by
  obtain ⟨mk, hnamed⟩ := Cond.code_named hcode
  obtain ⟨methM, cM, hmethM, -, -, -, -, -, -, hsigM⟩ := Cond.code_spec hnamed hcode
  have hstatic : methM.isStatic = true := Cond.static_spec hnamed hmethM hstat
  obtain ⟨kP, hkP, -⟩ := className_of_methodNamed hnamed
  have hinitP : kP.init = .initialized := Cond.initialized_spec (findClass_of_methodNamed hnamed) hkP hinit
  obtain ⟨vm₁, X₁, hstep₁⟩ := X.invokestatic hexec hown hlink hnamed hmethM hstatic hkP hinitP hy (g := g) hg (argsL := argsL) (rest := rest) (hlen _ hsigM) hstack hdg
  rcases hK m meth c ⟨T.setVm vm₁, locs, cells, slots⟩ { g with stack := rest } (.invokestatic index) mk argsL.toArray X₁ hg hsize hdg hW (X₁.named hnamed) (hpre vm₁ X₁.warmed) with ⟨v, B, X', hpost, hsteps⟩ | ⟨q, B, X', hpost, hsteps⟩
  · exact Or.inl ⟨v, vm₁, B, X₁.warmed, X', hpost, fun target h => hstep₁ _ fun acts => by rw [doInvoke_state]; exact hsteps.trans h⟩
  · exact Or.inr ⟨q, vm₁, B, X₁.warmed, X', hpost, hstep₁ _ fun acts => by rw [doInvoke_state]; exact hsteps⟩
end Calls
theorem vx_cls {s : State} {T : State} {vm₁ : Vm} {E : String} {k : ClassId} (hW : s.WarmedH vm₁) (h : (T.setVm vm₁).vm.findClass E = some k) : s.vm.findClass E = some k := by
  have h1 : vm₁.findClass E = some k := h
  rw [hW.alike.findClass] at h1
  exact h1
/-- the method's frame g, with q thrown over it -/
def vx_W (p : Program) (l : Launch) (e : Env) (R : Room) (s : State) (m : MethodId) (args : Array Value) (below : List Frame) (meth : Method) (c : Code) (H : Heap) (locs : List Loc) (cells slots : Nat) (Q : State → Prop) (g : JFrame) (q : Addr) : Prop :=
  ∀ T : State, T.heap = H → Stand p l e R s m args below meth c T locs cells slots → ∃ t, Steps p.tables e below ((T.setTop g).pushFrame (.throwing q)) t ∧ Q t
def vx_Run (p : Program) (l : Launch) (e : Env) (R : Room) (s : State) (m : MethodId) (args : Array Value) (below : List Frame) (meth : Method) (c : Code) (H : Heap) (locs : List Loc) (cells slots mc ms : Nat) (g : JFrame) (rest : List Value) (Qa : State → Outcome → State → Prop) (XC : String → State → State → Prop) (free : Addr → Prop) : Prop :=
  ∀ T : State, T.heap = H → Stand p l e R s m args below meth c T locs cells slots →
    (∃ (v : Option Value) (st₀ t T' : State) (L : List Loc), st₀.heap = H ∧ Stand p l e R s m args below meth c T' (locs ++ L) (cells + mc) (slots + ms) ∧ (∀ q ∈ L, free q.base) ∧ T'.heap = t.heap ∧ T'.vm = t.vm ∧ Qa st₀ (.returned v) t ∧
      Goes p e below T g T' { g with pc := g.pc + 3, stack := v.toList ++ rest }) ∨
    (∃ (q : Addr) (st₀ t T' : State) (L : List Loc) (E : String) (ce : Cell), st₀.heap = H ∧ Stand p l e R s m args below meth c T' (locs ++ L) (cells + mc) (slots + ms) ∧ (∀ z ∈ L, free z.base) ∧ T'.heap = t.heap ∧ T'.vm = t.vm ∧ XC E st₀ t ∧ t.heap[q]? = some ce ∧ ce.vm = .none ∧ s.vm.findClass E = some ce.cls ∧
      Steps p.tables e below (T.setTop g) ((T'.setTop { g with stack := rest }).pushFrame (.throwing q)))
def vx_X {S : Type} (px : S → Prop) (B : String → S → State → Prop) (A : Nat → Prop) : String → State → State → Prop := fun E st t => ∃ u : S, px u ∧ B E u t ∧ va_F A st t
section Runs
variable {p : Program} {l : Launch} {e : Env} {R : Room} {s : State} {m : MethodId} {args : Array Value} {below : List Frame} {meth : Method} {c : Code} {H : Heap} {locs : List Loc} {cells slots : Nat}
variable {y : MethodName} {bytes cc : ByteArray} {maxL nL mc ms n index : Nat} {ret : Option FieldType} {ws : List Cond} {rm : Room} {Pc : Array Value → State → Prop} {Qc : Array Value → State → Outcome → State → Prop} {XC : String → State → State → Prop} {free : Addr → Prop} {Ts : List Cond} {own C : String} {b : Addr} {As rest : List Value} {g : JFrame}
theorem vx_callBack (cb : CallB R s args own index y bytes maxL ret ws rm mc ms n) (hM : vx_Met l y ws rm Pc Qc XC mc ms free) (hbl : FrameBlind Pc) : vx_Back l R p e below s args y 3 8 (PreOf R mc ms Pc) (PostOf Qc mc ms free) (vx_Post XC mc ms free) := by
  obtain ⟨hrc, hrs, hfr, hlo, hws, hcw, -, hini, -⟩ := cb
  exact vx_back (bytes := bytes) (maxL := maxL) (ret := ret) hM hbl hrc hrs hfr hlo hws hcw (fun a' U hW => word_at hW (Or.inl (by first | rfl | simp [Cond.onTables, Cond.keeps, Cond.steady])) hini)
theorem vx_runV (S : CallFix p m c cc nL s args Ts own) (hM : vx_Met l y ws rm Pc Qc XC mc ms free) (cw : CallW R s args own C index y bytes maxL ret ws rm mc ms n) (hp : PreV s H C b Pc As)
    (hg : g.method = m) (hn : As.length = n) (hsize : g.locals.size = nL) (hstack : g.stack = As.reverse ++ .ref b :: rest) (hW : 2 * g.monitorRoom + (rest.map fun v => v.category).sum ≤ 8) (hdg : decode cc g.pc = .ok (.invokevirtual index, 3)) (hf : cells + mc ≤ R.cells ∧ slots + ms ≤ R.slots) :
    vx_Run p l e R s m args below meth c H locs cells slots mc ms g rest (Qc (Value.ref b :: As).toArray) XC free := by
  have hK : vx_Back l R p e below s args y 3 8 (PreOf R mc ms Pc) (PostOf Qc mc ms free) (vx_Post XC mc ms free) := vx_callBack cw.1 hM hp.1
  obtain ⟨⟨-, -, -, -, -, -, hcode, -, hy, hlen, hl⟩, hin, hse⟩ := cw
  obtain ⟨hx, hb, hml, ho, -⟩ := S
  obtain ⟨-, ⟨cellB, hcB, hoB, hclB⟩, hPc⟩ := hp
  intro T hT X
  rcases vx_callV X hx (C := C) (bytes := bytes) (maxL := maxL) (ret := ret) ho hl hin hse hcode hy hK (by rw [hT]; exact hcB) hoB hclB hg (hsize.trans hml.symm) (argsL := As) (rest := rest) (fun sig h => hn.trans (hlen sig h)) hstack hW (by rw [hb]; exact hdg)
    (fun vm₁ hW₁ => ⟨hf.1, hf.2, hPc (T.setVm vm₁) hT hW₁⟩) with ⟨v, vm₁, ⟨U', l2, c2, s2⟩, hW₁, X', ⟨g', mk, t, L, e1, e2, hq, h1, hL, h2, h3⟩, st⟩ | ⟨q, vm₁, ⟨U', l2, c2, s2⟩, hW₁, X', ⟨g', mk, t, L, E, ce, e1, e2, hq, hce, hcv, hcl, h1, hL, h2, h3⟩, st⟩
  · dsimp only [Pt.U, Pt.locs, Pt.cells, Pt.slots] at X' e1 e2 h1 h2 h3 st
    subst h1; subst h2; subst h3
    exact Or.inl ⟨v, (T.setVm vm₁).calling g' mk (Value.ref b :: As).toArray, t, U', L, hT, X', hL, e1, e2, hq, st⟩
  · dsimp only [Pt.U, Pt.locs, Pt.cells, Pt.slots] at X' e1 e2 h1 h2 h3 st hcl
    subst h1; subst h2; subst h3
    exact Or.inr ⟨q, (T.setVm vm₁).calling g' mk (Value.ref b :: As).toArray, t, U', L, E, ce, hT, X', hL, e1, e2, hq, hce, hcv, vx_cls hW₁ hcl, st⟩
theorem vx_runS (S : CallFix p m c cc nL s args Ts own) (hM : vx_Met l y ws rm Pc Qc XC mc ms free) (cw : CallB R s args own index y bytes maxL ret ws rm mc ms n ∧ (Cond.static y).before args s = true) (hp : PreS s H Pc As)
    (hg : g.method = m) (hn : As.length = n) (hsize : g.locals.size = nL) (hstack : g.stack = As.reverse ++ rest) (hW : 2 * g.monitorRoom + (rest.map fun v => v.category).sum ≤ 8) (hdg : decode cc g.pc = .ok (.invokestatic index, 3)) (hf : cells + mc ≤ R.cells ∧ slots + ms ≤ R.slots) :
    vx_Run p l e R s m args below meth c H locs cells slots mc ms g rest (Qc As.toArray) XC free := by
  have hK : vx_Back l R p e below s args y 3 8 (PreOf R mc ms Pc) (PostOf Qc mc ms free) (vx_Post XC mc ms free) := vx_callBack cw.1 hM hp.1
  obtain ⟨⟨-, -, -, -, -, -, hcode, hini, hy, hlen, hl⟩, hstt⟩ := cw
  obtain ⟨hx, hb, hml, ho, -⟩ := S
  intro T hT X
  rcases vx_callS X hx (bytes := bytes) (maxL := maxL) (ret := ret) ho hl hstt hini hcode hy hK hg (hsize.trans hml.symm) (argsL := As) (rest := rest) (fun sig h => hn.trans (hlen sig h)) hstack hW (by rw [hb]; exact hdg)
    (fun vm₁ hW₁ => ⟨hf.1, hf.2, hp.2 (T.setVm vm₁) hT hW₁⟩) with ⟨v, vm₁, ⟨U', l2, c2, s2⟩, hW₁, X', ⟨g', mk, t, L, e1, e2, hq, h1, hL, h2, h3⟩, st⟩ | ⟨q, vm₁, ⟨U', l2, c2, s2⟩, hW₁, X', ⟨g', mk, t, L, E, ce, e1, e2, hq, hce, hcv, hcl, h1, hL, h2, h3⟩, st⟩
  · dsimp only [Pt.U, Pt.locs, Pt.cells, Pt.slots] at X' e1 e2 h1 h2 h3 st
    subst h1; subst h2; subst h3
    exact Or.inl ⟨v, (T.setVm vm₁).calling g' mk As.toArray, t, U', L, hT, X', hL, e1, e2, hq, st⟩
  · dsimp only [Pt.U, Pt.locs, Pt.cells, Pt.slots] at X' e1 e2 h1 h2 h3 st hcl
    subst h1; subst h2; subst h3
    exact Or.inr ⟨q, (T.setVm vm₁).calling g' mk As.toArray, t, U', L, E, ce, hT, X', hL, e1, e2, hq, hce, hcv, vx_cls hW₁ hcl, st⟩
end Runs
section Rows
variable {p : Program} {l : Launch} {e : Env} {R : Room} {s : State} {m : MethodId} {args : Array Value} {below : List Frame} {meth : Method} {c : Code} {H : Heap} {locs : List Loc} {cells slots : Nat} {Q : State → Prop}
variable {mc ms : Nat} {free : Addr → Prop} {A0 A1 : Nat → Prop} {H0 : Heap} {a : Array Value} {pc : Nat} {ls : Array Slot} {st0 rest : List Value}
theorem vx_keep {st₀ t T' : State} {L : List Loc} (h0 : st₀.heap = H) (e1 : T'.heap = t.heap) (hS : va_S A0 H0 H locs) (hA : ∀ q, q < H.size → A1 q → A0 q) (hf : ∀ q, free q → A0 q) (hL : ∀ q ∈ L, free q.base) (hF : va_F A1 st₀ t) :
    H.size ≤ T'.heap.size ∧ (∀ q : Nat, q < H.size → ¬ A1 q → T'.heap[q]? = H[q]?) ∧ va_S A0 H0 T'.heap (locs ++ L) := by
  obtain ⟨hz, hk⟩ := hF
  rw [h0] at hz hk
  exact ⟨by rw [e1]; exact hz, fun q h1 h2 => by rw [e1]; exact hk q h1 h2,
    ⟨Nat.le_trans hS.1 (by rw [e1]; exact hz), fun q h1 h2 => by rw [e1, hk q (Nat.lt_of_lt_of_le h1 hS.1) (fun z => h2 (hA q (Nat.lt_of_lt_of_le h1 hS.1) z))]; exact hS.2.1 q h1 h2, fun q hq => by
      rcases List.mem_append.mp hq with h | h
      · exact hS.2.2 q h
      · exact hf _ (hL q h)⟩⟩
theorem vx_calli {S SX : Type} {post : Int32 → S → Prop} {px : SX → Prop} {B : S → State → Prop} {BX : String → SX → State → Prop} {AX : Nat → Prop} (hr : vx_Run p l e R s m args below meth c H locs cells slots mc ms (F0 m pc ls st0) rest (va_Qi post B A1 a) (vx_X px BX AX) free) (hS : va_S A0 H0 H locs) (hA : ∀ q, q < H.size → A1 q → A0 q) (hf : ∀ q, free q → A0 q) (hAX : ∀ q, q < H.size → AX q → A0 q)
    (kx : ∀ (E : String) (ce : Cell) (q9 : Addr) (u : SX) (t : State) (H1 : Heap) (locs1 : List Loc), t.heap = H1 → s.vm.Alike t.vm → px u → BX E u t → H.size ≤ H1.size → (∀ q : Nat, q < H.size → ¬ AX q → H1[q]? = H[q]?) → va_S A0 H0 H1 locs1 → H1[q9]? = some ce → ce.vm = .none → s.vm.findClass E = some ce.cls → vx_W p l e R s m args below meth c H1 locs1 (cells + mc) (slots + ms) Q (F0 m pc ls rest) q9)
    (kk : ∀ (r : Int32) (u : S) (t : State) (H1 : Heap) (locs1 : List Loc), t.heap = H1 → s.vm.Alike t.vm → post r u → B u t → H.size ≤ H1.size → (∀ q : Nat, q < H.size → ¬ A1 q → H1[q]? = H[q]?) → va_S A0 H0 H1 locs1 → W p l e R s m args below meth c H1 locs1 (cells + mc) (slots + ms) Q (F0 m (pc + 3) ls (.int r :: rest))) : W p l e R s m args below meth c H locs cells slots Q (F0 m pc ls st0) := by
  intro T hT X
  rcases hr T hT X with ⟨v, st₀, t, T', L, h0, X', hL, e1, e2, ⟨⟨r, u, hv, hp, hb⟩, hF⟩, st⟩ | ⟨q, st₀, t, T', L, E, ce, h0, X', hL, e1, e2, ⟨u, hp, hb, hF⟩, hce, hcv, hcl, st⟩
  · cases hv
    obtain ⟨k1, k2, k3⟩ := vx_keep h0 e1 hS hA hf hL hF
    obtain ⟨t2, a1, b1⟩ := kk r u t T'.heap (locs ++ L) e1.symm (by rw [← e2]; exact X'.warmed.alike) hp hb k1 k2 k3 T' rfl X'
    exact ⟨t2, st t2 a1, b1⟩
  · obtain ⟨k1, k2, k3⟩ := vx_keep h0 e1 hS hAX hf hL hF
    obtain ⟨t2, a1, b1⟩ := kx E ce q u t T'.heap (locs ++ L) e1.symm (by rw [← e2]; exact X'.warmed.alike) hp hb k1 k2 k3 (by rw [e1]; exact hce) hcv hcl T' rfl X'
    exact ⟨t2, st.trans a1, b1⟩
theorem vx_calll {S SX : Type} {post : Int64 → S → Prop} {px : SX → Prop} {B : S → State → Prop} {BX : String → SX → State → Prop} {AX : Nat → Prop} (hr : vx_Run p l e R s m args below meth c H locs cells slots mc ms (F0 m pc ls st0) rest (va_Ql post B A1 a) (vx_X px BX AX) free) (hS : va_S A0 H0 H locs) (hA : ∀ q, q < H.size → A1 q → A0 q) (hf : ∀ q, free q → A0 q) (hAX : ∀ q, q < H.size → AX q → A0 q)
    (kx : ∀ (E : String) (ce : Cell) (q9 : Addr) (u : SX) (t : State) (H1 : Heap) (locs1 : List Loc), t.heap = H1 → s.vm.Alike t.vm → px u → BX E u t → H.size ≤ H1.size → (∀ q : Nat, q < H.size → ¬ AX q → H1[q]? = H[q]?) → va_S A0 H0 H1 locs1 → H1[q9]? = some ce → ce.vm = .none → s.vm.findClass E = some ce.cls → vx_W p l e R s m args below meth c H1 locs1 (cells + mc) (slots + ms) Q (F0 m pc ls rest) q9)
    (kk : ∀ (r : Int64) (u : S) (t : State) (H1 : Heap) (locs1 : List Loc), t.heap = H1 → s.vm.Alike t.vm → post r u → B u t → H.size ≤ H1.size → (∀ q : Nat, q < H.size → ¬ A1 q → H1[q]? = H[q]?) → va_S A0 H0 H1 locs1 → W p l e R s m args below meth c H1 locs1 (cells + mc) (slots + ms) Q (F0 m (pc + 3) ls (.long r :: rest))) : W p l e R s m args below meth c H locs cells slots Q (F0 m pc ls st0) := by
  intro T hT X
  rcases hr T hT X with ⟨v, st₀, t, T', L, h0, X', hL, e1, e2, ⟨⟨r, u, hv, hp, hb⟩, hF⟩, st⟩ | ⟨q, st₀, t, T', L, E, ce, h0, X', hL, e1, e2, ⟨u, hp, hb, hF⟩, hce, hcv, hcl, st⟩
  · cases hv
    obtain ⟨k1, k2, k3⟩ := vx_keep h0 e1 hS hA hf hL hF
    obtain ⟨t2, a1, b1⟩ := kk r u t T'.heap (locs ++ L) e1.symm (by rw [← e2]; exact X'.warmed.alike) hp hb k1 k2 k3 T' rfl X'
    exact ⟨t2, st t2 a1, b1⟩
  · obtain ⟨k1, k2, k3⟩ := vx_keep h0 e1 hS hAX hf hL hF
    obtain ⟨t2, a1, b1⟩ := kx E ce q u t T'.heap (locs ++ L) e1.symm (by rw [← e2]; exact X'.warmed.alike) hp hb k1 k2 k3 (by rw [e1]; exact hce) hcv hcl T' rfl X'
    exact ⟨t2, st.trans a1, b1⟩
theorem vx_callf {S SX : Type} {post : UInt32 → S → Prop} {px : SX → Prop} {B : S → State → Prop} {BX : String → SX → State → Prop} {AX : Nat → Prop} (hr : vx_Run p l e R s m args below meth c H locs cells slots mc ms (F0 m pc ls st0) rest (va_Qf post B A1 a) (vx_X px BX AX) free) (hS : va_S A0 H0 H locs) (hA : ∀ q, q < H.size → A1 q → A0 q) (hf : ∀ q, free q → A0 q) (hAX : ∀ q, q < H.size → AX q → A0 q)
    (kx : ∀ (E : String) (ce : Cell) (q9 : Addr) (u : SX) (t : State) (H1 : Heap) (locs1 : List Loc), t.heap = H1 → s.vm.Alike t.vm → px u → BX E u t → H.size ≤ H1.size → (∀ q : Nat, q < H.size → ¬ AX q → H1[q]? = H[q]?) → va_S A0 H0 H1 locs1 → H1[q9]? = some ce → ce.vm = .none → s.vm.findClass E = some ce.cls → vx_W p l e R s m args below meth c H1 locs1 (cells + mc) (slots + ms) Q (F0 m pc ls rest) q9)
    (kk : ∀ (r : UInt32) (u : S) (t : State) (H1 : Heap) (locs1 : List Loc), t.heap = H1 → s.vm.Alike t.vm → post r u → B u t → H.size ≤ H1.size → (∀ q : Nat, q < H.size → ¬ A1 q → H1[q]? = H[q]?) → va_S A0 H0 H1 locs1 → W p l e R s m args below meth c H1 locs1 (cells + mc) (slots + ms) Q (F0 m (pc + 3) ls (.float r :: rest))) : W p l e R s m args below meth c H locs cells slots Q (F0 m pc ls st0) := by
  intro T hT X
  rcases hr T hT X with ⟨v, st₀, t, T', L, h0, X', hL, e1, e2, ⟨⟨r, u, hv, hp, hb⟩, hF⟩, st⟩ | ⟨q, st₀, t, T', L, E, ce, h0, X', hL, e1, e2, ⟨u, hp, hb, hF⟩, hce, hcv, hcl, st⟩
  · cases hv
    obtain ⟨k1, k2, k3⟩ := vx_keep h0 e1 hS hA hf hL hF
    obtain ⟨t2, a1, b1⟩ := kk r u t T'.heap (locs ++ L) e1.symm (by rw [← e2]; exact X'.warmed.alike) hp hb k1 k2 k3 T' rfl X'
    exact ⟨t2, st t2 a1, b1⟩
  · obtain ⟨k1, k2, k3⟩ := vx_keep h0 e1 hS hAX hf hL hF
    obtain ⟨t2, a1, b1⟩ := kx E ce q u t T'.heap (locs ++ L) e1.symm (by rw [← e2]; exact X'.warmed.alike) hp hb k1 k2 k3 (by rw [e1]; exact hce) hcv hcl T' rfl X'
    exact ⟨t2, st.trans a1, b1⟩
theorem vx_calld {S SX : Type} {post : UInt64 → S → Prop} {px : SX → Prop} {B : S → State → Prop} {BX : String → SX → State → Prop} {AX : Nat → Prop} (hr : vx_Run p l e R s m args below meth c H locs cells slots mc ms (F0 m pc ls st0) rest (va_Qd post B A1 a) (vx_X px BX AX) free) (hS : va_S A0 H0 H locs) (hA : ∀ q, q < H.size → A1 q → A0 q) (hf : ∀ q, free q → A0 q) (hAX : ∀ q, q < H.size → AX q → A0 q)
    (kx : ∀ (E : String) (ce : Cell) (q9 : Addr) (u : SX) (t : State) (H1 : Heap) (locs1 : List Loc), t.heap = H1 → s.vm.Alike t.vm → px u → BX E u t → H.size ≤ H1.size → (∀ q : Nat, q < H.size → ¬ AX q → H1[q]? = H[q]?) → va_S A0 H0 H1 locs1 → H1[q9]? = some ce → ce.vm = .none → s.vm.findClass E = some ce.cls → vx_W p l e R s m args below meth c H1 locs1 (cells + mc) (slots + ms) Q (F0 m pc ls rest) q9)
    (kk : ∀ (r : UInt64) (u : S) (t : State) (H1 : Heap) (locs1 : List Loc), t.heap = H1 → s.vm.Alike t.vm → post r u → B u t → H.size ≤ H1.size → (∀ q : Nat, q < H.size → ¬ A1 q → H1[q]? = H[q]?) → va_S A0 H0 H1 locs1 → W p l e R s m args below meth c H1 locs1 (cells + mc) (slots + ms) Q (F0 m (pc + 3) ls (.double r :: rest))) : W p l e R s m args below meth c H locs cells slots Q (F0 m pc ls st0) := by
  intro T hT X
  rcases hr T hT X with ⟨v, st₀, t, T', L, h0, X', hL, e1, e2, ⟨⟨r, u, hv, hp, hb⟩, hF⟩, st⟩ | ⟨q, st₀, t, T', L, E, ce, h0, X', hL, e1, e2, ⟨u, hp, hb, hF⟩, hce, hcv, hcl, st⟩
  · cases hv
    obtain ⟨k1, k2, k3⟩ := vx_keep h0 e1 hS hA hf hL hF
    obtain ⟨t2, a1, b1⟩ := kk r u t T'.heap (locs ++ L) e1.symm (by rw [← e2]; exact X'.warmed.alike) hp hb k1 k2 k3 T' rfl X'
    exact ⟨t2, st t2 a1, b1⟩
  · obtain ⟨k1, k2, k3⟩ := vx_keep h0 e1 hS hAX hf hL hF
    obtain ⟨t2, a1, b1⟩ := kx E ce q u t T'.heap (locs ++ L) e1.symm (by rw [← e2]; exact X'.warmed.alike) hp hb k1 k2 k3 (by rw [e1]; exact hce) hcv hcl T' rfl X'
    exact ⟨t2, st.trans a1, b1⟩
theorem vx_callv {S SX : Type} {post : S → Prop} {px : SX → Prop} {B : S → State → Prop} {BX : String → SX → State → Prop} {AX : Nat → Prop} (hr : vx_Run p l e R s m args below meth c H locs cells slots mc ms (F0 m pc ls st0) rest (va_Qv post B A1 a) (vx_X px BX AX) free) (hS : va_S A0 H0 H locs) (hA : ∀ q, q < H.size → A1 q → A0 q) (hf : ∀ q, free q → A0 q) (hAX : ∀ q, q < H.size → AX q → A0 q)
    (kx : ∀ (E : String) (ce : Cell) (q9 : Addr) (u : SX) (t : State) (H1 : Heap) (locs1 : List Loc), t.heap = H1 → s.vm.Alike t.vm → px u → BX E u t → H.size ≤ H1.size → (∀ q : Nat, q < H.size → ¬ AX q → H1[q]? = H[q]?) → va_S A0 H0 H1 locs1 → H1[q9]? = some ce → ce.vm = .none → s.vm.findClass E = some ce.cls → vx_W p l e R s m args below meth c H1 locs1 (cells + mc) (slots + ms) Q (F0 m pc ls rest) q9)
    (kk : ∀ (u : S) (t : State) (H1 : Heap) (locs1 : List Loc), t.heap = H1 → s.vm.Alike t.vm → post u → B u t → H.size ≤ H1.size → (∀ q : Nat, q < H.size → ¬ A1 q → H1[q]? = H[q]?) → va_S A0 H0 H1 locs1 → W p l e R s m args below meth c H1 locs1 (cells + mc) (slots + ms) Q (F0 m (pc + 3) ls (rest))) : W p l e R s m args below meth c H locs cells slots Q (F0 m pc ls st0) := by
  intro T hT X
  rcases hr T hT X with ⟨v, st₀, t, T', L, h0, X', hL, e1, e2, ⟨⟨u, hv, hp, hb⟩, hF⟩, st⟩ | ⟨q, st₀, t, T', L, E, ce, h0, X', hL, e1, e2, ⟨u, hp, hb, hF⟩, hce, hcv, hcl, st⟩
  · cases hv
    obtain ⟨k1, k2, k3⟩ := vx_keep h0 e1 hS hA hf hL hF
    obtain ⟨t2, a1, b1⟩ := kk u t T'.heap (locs ++ L) e1.symm (by rw [← e2]; exact X'.warmed.alike) hp hb k1 k2 k3 T' rfl X'
    exact ⟨t2, st t2 a1, b1⟩
  · obtain ⟨k1, k2, k3⟩ := vx_keep h0 e1 hS hAX hf hL hF
    obtain ⟨t2, a1, b1⟩ := kx E ce q u t T'.heap (locs ++ L) e1.symm (by rw [← e2]; exact X'.warmed.alike) hp hb k1 k2 k3 (by rw [e1]; exact hce) hcv hcl T' rfl X'
    exact ⟨t2, st.trans a1, b1⟩
/-- caught by the row x of this method's table; the rows ahead don't take it -/
theorem vx_catch {own name : String} {E : String} {ce : Cell} {q : Addr} (hown : s.vm.findClass own = some m.cls) (pre : List ExceptionTableEntry) (x : ExceptionTableEntry) (suf : List ExceptionTableEntry) (hsplit : c.exceptionTable.toList = pre ++ x :: suf)
    (hpass : ∀ z ∈ pre, covers z pc = false ∨ (z.catchType ≠ 0 ∧ ∃ nm : String, (Cond.classLink own z.catchType nm).before args s = true ∧ va_Nc E nm s)) (hx : covers x pc = true) (h0 : x.catchType ≠ 0)
    (hlink : (Cond.classLink own x.catchType name).before args s = true) (hcast : (Cond.castable E name).before args s = true) (hcell : H[q]? = some ce) (hv : ce.vm = .none) (hcl : s.vm.findClass E = some ce.cls)
    (kk : W p l e R s m args below meth c H locs cells slots Q (F0 m x.handlerPc ls [.ref q])) : vx_W p l e R s m args below meth c H locs cells slots Q (F0 m pc ls rest) q := by
  intro T hT X
  have hpl : e.platform.magicAccessors = ({} : Platform).magicAccessors := by rw [X.admits.platform]
  obtain ⟨c3, c4, hc3, hc4, hasg⟩ := Cond.castable_spec hcast
  cases Option.some.inj (hc3.symm.trans hcl)
  obtain ⟨c5, hc5, hcl5⟩ := Cond.classLink_spec hown hlink e.platform hpl
  cases Option.some.inj (hc4.symm.trans hc5)
  obtain ⟨vm', X', st⟩ := X.thenCaughtThrough q (g := F0 m pc ls rest) rfl (Steps.refl _) (by rw [hT]; exact hcell) (by rw [hv]; rfl) (by obtain ⟨k9, h9, -⟩ := Vm.findClass_spec hcl; exact ⟨k9, h9⟩) pre x suf hsplit
    (fun z hz => by
      rcases hpass z hz with h | ⟨hz0, nm, hl1, hn1⟩
      · exact Or.inl h
      · obtain ⟨c6, hc6, hcl6⟩ := Cond.classLink_spec hown hl1 e.platform hpl
        obtain ⟨a8, b8, h1, h2, h3⟩ := hn1
        cases Option.some.inj (h1.symm.trans hcl)
        cases Option.some.inj (h2.symm.trans hc6)
        exact Or.inr ⟨hz0, _, hcl6, h3⟩) hx (Or.inr ⟨h0, c4, hcl5, hasg⟩)
  obtain ⟨t, a1, b1⟩ := kk (T.setVm vm') hT X'
  exact ⟨t, st.trans a1, b1⟩
end Rows
section Ends
variable {p : Program} {l : Launch} {e : Env} {R : Room} {s : State} {m : MethodId} {args : Array Value} {below : List Frame} {meth : Method} {c : Code} {H : Heap} {locs : List Loc} {cells slots : Nat} {Q : State → Prop}
variable {mc ms : Nat} {free : Addr → Prop} {A0 A1 : Nat → Prop} {H0 : Heap} {a : Array Value} {ls : Array Slot} {st0 rest : List Value}
variable {Qc : Array Value → State → Outcome → State → Prop} {XC : String → State → State → Prop}
/-- what a body that may throw owes at its end -/
def vx_MQ (below : List Frame) (Qc : Array Value → State → Outcome → State → Prop) (XC : String → State → State → Prop) (a : Array Value) (s : State) (mc ms : Nat) (free : Addr → Prop) : State → Prop := fun t =>
  ∃ o, t.status = .running ∧ Ended t below o ∧ vx_Q Qc XC mc ms free a s o t
theorem vx_ret {g : JFrame} {mc ms : Nat} (k : W p l e R s m args below meth c H locs cells slots (MQ below Qc args s mc ms free) g) : W p l e R s m args below meth c H locs cells slots (vx_MQ below Qc XC args s mc ms free) g := by
  intro T hT X
  obtain ⟨t, a1, o, b1, b2, b3, b4⟩ := k T hT X
  exact ⟨t, a1, o, b1, b2, Or.inl ⟨b3, b4⟩⟩
/-- not caught here: it goes on to the caller -/
theorem vx_widen {g : JFrame} {q : Addr} {k n : Nat} (h1 : cells ≤ k) (h2 : slots ≤ n) (kk : vx_W p l e R s m args below meth c H locs k n Q g q) : vx_W p l e R s m args below meth c H locs cells slots Q g q := fun T hT X => kk T hT (stand_widen X h1 h2)
theorem vx_out {pc : Nat} {E : String} {ce : Cell} {q : Addr} {mc ms : Nat} (hout : ∀ x ∈ c.exceptionTable.toList, covers x pc = false) (hlocks : meth.locks = false) (hcell : H[q]? = some ce) (hv : ce.vm = .none) (hcl : s.vm.findClass E = some ce.cls)
    (hx : ∀ t : State, t.heap = H → s.vm.Alike t.vm → XC E s t) (hf : ∀ z ∈ locs, free z.base) (hc : cells ≤ mc) (hs : slots ≤ ms) :
    vx_W p l e R s m args below meth c H locs cells slots (vx_MQ below Qc XC args s mc ms free) (F0 m pc ls rest) q := by
  intro T hT X
  obtain ⟨st1, hrun, hend, hW, hsm⟩ := X.leaveThrown q (g := F0 m pc ls rest) rfl rfl rfl hout hlocks
  have hcell9 : (T.setFrames (.throwing q :: below)).heap[q]? = some ce := by
    show T.heap[q]? = some ce
    rw [hT]; exact hcell
  exact ⟨_, st1, .threw q, hrun, hend, Or.inr ⟨q, rfl, E, ce, locs, hx _ hT hW.alike, hcell9, hv, hcl, hW, hsm.mono hc hs, hf⟩⟩
theorem vx_frame {U : State} {k n : Nat} (h : s.sameButNew ({ U with vm := s.vm } : State) locs k n) : s.heap.size ≤ U.heap.size ∧ ∀ q : Nat, q < s.heap.size → (∀ z ∈ locs, z.base ≠ q) → U.heap[q]? = s.heap[q]? := by
  obtain ⟨-, h2, -, -, -, h6⟩ := h
  refine ⟨h2, fun q hq hz => ?_⟩
  obtain ⟨c9, e1, e2, e3, e4⟩ := h6 q _ (Array.getElem?_eq_getElem hq)
  have hs : c9.slots = (s.heap[q]).slots := Array.ext_getElem? fun i => e4 i fun hm => hz _ hm rfl
  have h9 : c9 = s.heap[q] := by
    rw [hs] at e2
    exact e2
  have e5 : U.heap[q]? = some c9 := e1
  rw [e5, h9, Array.getElem?_eq_getElem hq]
/-- the words of a throw but the four that speak of the heap -/
def vx_no (w : Cond) : Bool := decide (w ≠ .isRef (.static Bundle.tN "UNASSIGNED_STACK" Bundle.steD)) && decide (w ≠ .isRef (.static Bundle.tN "SUPPRESSED_SENTINEL" Bundle.listD)) && decide (w ≠ .laysStatic Bundle.tN "UNASSIGNED_STACK" Bundle.steD) && decide (w ≠ .laysStatic Bundle.tN "SUPPRESSED_SENTINEL" Bundle.listD)
def vx_at0 (own : String) (ic : Nat) (X : String) (names : List String) : List Cond := (Bundle.ownAtoms0 own ic X names).filter vx_no
def vx_atS (own : String) (ic : Nat) (X : String) (names : List String) : List Cond := (Bundle.ownAtoms own ic X names).filter vx_no
/-- a word that the tables alone decide, or a good one -/
def vx_ot (w : Cond) : Bool := w.onTables || goodWord w
theorem vx_ot_at {args a' : Array Value} {s U : State} {w : Cond} (hW : s.WarmedH U.vm) (hvm : s.vm = U.vm) (hg : vx_ot w = true) (h : w.before args s = true) : w.before a' U = true := by
  simp only [vx_ot, Bool.or_eq_true] at hg
  rcases hg with hg | hg
  · exact va_tabs hg hvm h
  · exact word_at hW (good_of_word hg) h
/-- a list's words: the good ones out of the method's own list, the others by premises of their own -/
theorem vx_hat {args : Array Value} {s : State} {L B : List Cond} (h1 : ∀ w ∈ L.filter goodWord, w.before args s = true) (h2 : ∀ w ∈ L.filter (fun w => !goodWord w), w ∈ B) (h3 : ∀ w ∈ B, w.before args s = true) : ∀ w ∈ L, w.before args s = true := by
  intro w hw
  by_cases g : goodWord w = true
  · exact h1 w (List.mem_filter.mpr ⟨hw, g⟩)
  · refine h3 w (h2 w (List.mem_filter.mpr ⟨hw, ?_⟩))
    show (!goodWord w) = true
    cases hgw : goodWord w
    · rfl
    · exact absurd hgw g
theorem vx_c {args : Array Value} {s : State} {w : Cond} {B : List Cond} (h : w.before args s = true) (t : ∀ w ∈ B, w.before args s = true) : ∀ w' ∈ w :: B, w'.before args s = true := fun w' h' => (List.mem_cons.mp h').elim (fun e => by rw [e]; exact h) (t w')
theorem vx_n {args : Array Value} {s : State} : ∀ w ∈ ([] : List Cond), w.before args s = true := fun _ h => nomatch h
theorem vx_own {args : Array Value} {s : State} {L : List Cond} (h1 : ∀ w ∈ L.filter vx_no, w.before args s = true)
    (hU : (Cond.isRef (.static Bundle.tN "UNASSIGNED_STACK" Bundle.steD)).before args s = true) (hN : (Cond.isRef (.static Bundle.tN "SUPPRESSED_SENTINEL" Bundle.listD)).before args s = true)
    (lU : (Cond.laysStatic Bundle.tN "UNASSIGNED_STACK" Bundle.steD).before args s = true) (lN : (Cond.laysStatic Bundle.tN "SUPPRESSED_SENTINEL" Bundle.listD).before args s = true) : ∀ w ∈ L, w.before args s = true := by
  intro w hw
  by_cases e1 : w = .isRef (.static Bundle.tN "UNASSIGNED_STACK" Bundle.steD)
  · rw [e1]; exact hU
  · by_cases e2 : w = .isRef (.static Bundle.tN "SUPPRESSED_SENTINEL" Bundle.listD)
    · rw [e2]; exact hN
    · by_cases e3 : w = .laysStatic Bundle.tN "UNASSIGNED_STACK" Bundle.steD
      · rw [e3]; exact lU
      · by_cases e4 : w = .laysStatic Bundle.tN "SUPPRESSED_SENTINEL" Bundle.listD
        · rw [e4]; exact lN
        · exact h1 w (List.mem_filter.mpr ⟨hw, by unfold vx_no; rw [decide_eq_true e1, decide_eq_true e2, decide_eq_true e3, decide_eq_true e4]; rfl⟩)
/-- where a static field lies, its class's statics cell in H -/
def vx_L (C n d : String) (A : Nat → Prop) (U : State) (H : Heap) : Prop := ∃ (c : ClassId) (k : Class) (i : Nat) (f : Field) (a : Nat) (cell : Cell), U.vm.findClass C = some c ∧ U.fieldFound? C n d = some (c, k, i, f) ∧ f.isStatic = true ∧ k.statics = some a ∧ H[a]? = some cell ∧ cell.vm.isStatics = true ∧ cell.cls = c ∧ f.slot < cell.slots.size ∧ k.staticTypes[f.slot]? = some f.type ∧ ¬ A a
theorem vx_L.moved {C n d : String} {A : Nat → Prop} {u U : State} {H : Heap} (hvm : u.vm.Alike U.vm) (h : vx_L C n d A u H) : vx_L C n d A U H := by
  obtain ⟨c, k, i, f, a, cell, h1, h2, h3, h4, h5, h6, h7, h8, h9, h10⟩ := h
  obtain ⟨k', hi', he⟩ := State.fieldFound?_setVm hvm h2
  exact ⟨c, k', i, f, a, cell, by rw [hvm.findClass]; exact h1, hi', h3, by rw [he]; exact h4, h5, h6, h7, h8, by rw [he]; exact h9, h10⟩
theorem vx_L.kept {C n d : String} {A : Nat → Prop} {U : State} {H H1 : Heap} (h : vx_L C n d A U H) (hq : ∀ a : Nat, a < H.size → ¬ A a → H1[a]? = H[a]?) : vx_L C n d A U H1 := by
  obtain ⟨c, k, i, f, a, cell, h1, h2, h3, h4, h5, h6, h7, h8, h9, h10⟩ := h
  exact ⟨c, k, i, f, a, cell, h1, h2, h3, h4, by rw [hq a (Array.getElem?_eq_some_iff.mp h5).1 h10]; exact h5, h6, h7, h8, h9, h10⟩
theorem vx_L.narrow {C n d : String} {A B : Nat → Prop} {U : State} {H : Heap} (h : vx_L C n d A U H) (hAB : ∀ q, B q → A q) : vx_L C n d B U H := by
  obtain ⟨c, k, i, f, a, cell, h1, h2, h3, h4, h5, h6, h7, h8, h9, h10⟩ := h
  exact ⟨c, k, i, f, a, cell, h1, h2, h3, h4, h5, h6, h7, h8, h9, fun z => h10 (hAB _ z)⟩
theorem vx_L.word {C n d : String} {A : Nat → Prop} {s : State} {args : Array Value} (h : vx_L C n d A s s.heap) : (Cond.laysStatic C n d).before args s = true := by
  obtain ⟨c, k, i, f, a, cell, h1, h2, h3, h4, h5, h6, h7, h8, h9, -⟩ := h
  show (Cond.laysStatic C n d).holds args s none s [] = true
  exact Cond.laysStatic_of h1 h2 h3 h4 h5 h6 h7 h8 h9
/-- .. and what it holds: null or some reference -/
def vx_Zq (C n d : String) (A : Nat → Prop) (U : State) (H : Heap) : Prop := va_Zq C n d A U H ∧ vx_L C n d A U H
theorem vx_Zq.moved {C n d : String} {A : Nat → Prop} {u U : State} {H : Heap} (hvm : u.vm.Alike U.vm) (h : vx_Zq C n d A u H) : vx_Zq C n d A U H := ⟨va_Zq.moved hvm h.1, vx_L.moved hvm h.2⟩
theorem vx_Zq.kept {C n d : String} {A : Nat → Prop} {U : State} {H H1 : Heap} (h : vx_Zq C n d A U H) (hq : ∀ a : Nat, a < H.size → ¬ A a → H1[a]? = H[a]?) : vx_Zq C n d A U H1 := ⟨va_Zq.kept h.1 hq, vx_L.kept h.2 hq⟩
theorem vx_Zq.narrow {C n d : String} {A B : Nat → Prop} {U : State} {H : Heap} (h : vx_Zq C n d A U H) (hAB : ∀ q, B q → A q) : vx_Zq C n d B U H := ⟨va_Zq.narrow h.1 hAB, vx_L.narrow h.2 hAB⟩
theorem vx_Zqof {args : Array Value} {s : State} {C n d : String} {A : Nat → Prop} (hl : (Cond.laysStatic C n d).before args s = true) (hini : (Cond.initialized C).before args s = true) (h : (Cond.isRef (.static C n d)).before args s = true) (hA : ∀ a : Nat, a < s.heap.size → ¬ A a) : vx_Zq C n d A s s.heap := by
  refine ⟨va_Zqof hl hini h hA, ?_⟩
  obtain ⟨c, k, i, f, a, cell, h1, h2, h3, h4, h5, h6, h7, h8, h9⟩ := Cond.laysStatic_spec hl
  exact ⟨c, k, i, f, a, cell, h1, h2, h3, h4, h5, h6, h7, h8, h9, hA a (Array.getElem?_eq_some_iff.mp h5).1⟩
theorem vx_isRef {C n d : String} {v : Value} {A : Nat → Prop} {s : State} {args : Array Value} (h : va_Z C n d v A s s.heap) (hv : v.isRef = true) : (Cond.isRef (.static C n d)).before args s = true := by
  obtain ⟨cf, kf, fi, f, a, cell, h1, h2, h3, h4, h5, h6, h7, -⟩ := h
  have he : (Term.static C n d).eval args s none [] s = some v := by
    simp [Term.eval, State.fieldNamed?, h1, h2, h4, h5, h6, h7]
  simp only [Cond.before, Cond.holds, Cond.value, he]
  cases v <;> simp_all [Value.isRef]
theorem vx_isRefq {C n d : String} {A : Nat → Prop} {s : State} {args : Array Value} (h : va_Zq C n d A s s.heap) : (Cond.isRef (.static C n d)).before args s = true := by
  rcases h with h | ⟨t, h⟩
  · exact vx_isRef h rfl
  · exact vx_isRef h rfl
/-- the same frame, seen from here: as if the method were called anew in this heap -/
theorem vx_rebase {T : State} (X : Stand p l e R s m args below meth c T locs cells slots) {R' : Room} (hf : R'.frames ≤ R.frames) (hl : R'.locals ≤ R.locals) (hc : cells + R'.cells ≤ R.cells) (hs : slots + R'.slots ≤ R.slots) :
    Stand p l e R' ((T.setVm s.vm).setFrames (.invoking m args :: below)) m args below meth c T [] 0 0 := by
  have htop : (T.setVm s.vm).topJava?.isSome := X.here.top
  have hF : ((T.setVm s.vm).setFrames (.invoking m args :: below)).frames = .invoking m args :: below := State.frames_setFrames _ (State.cur_lt_of_top htop)
  obtain ⟨g₀, hg0⟩ := Option.isSome_iff_exists.mp htop
  obtain ⟨r, hr⟩ := State.topJava?_eq_some.mp hg0
  have hl9 : e.platform.stackLimits (T.setVm s.vm).me = e.platform.stackLimits s.me := X.limits
  have hb9 : (T.setVm s.vm).me.stackBytes = s.me.stackBytes := X.bytes
  refine ⟨X.admits, X.cas, X.clock, hF, ?_, X.hears, X.method, X.code, X.here, X.tail, X.warmed, ?_, ?_, ?_⟩
  · have h := X.room
    have hU : ((T.setVm s.vm).setFrames (.invoking m args :: below)).localsInUse = s.localsInUse := by
      rw [State.localsInUse_invoking hF (meth := meth) (c := c) X.method X.code, State.localsInUse_invoking X.frames X.method X.code]
    simp only [State.hasRoom, Bool.and_eq_true, decide_eq_true_eq] at h ⊢
    obtain ⟨⟨⟨⟨h1, h2, h3, h4, h5, h6⟩, h7⟩, h8⟩, h9⟩ := h
    rw [X.frames, List.length_cons] at h2 h3
    have q1 := X.heapSize
    have q2 := X.used
    simp only [hF, hU, List.length_cons, State.stackLimits_setFrames, State.stackBytes_setFrames, hl9, hb9]
    refine ⟨⟨⟨⟨by omega, by omega, by omega, by omega, by omega, h6⟩, ?_⟩, ?_⟩, X.book⟩
    · show T.heap.size + R'.cells ≤ e.platform.maxCells
      omega
    · show T.slotsUsed + R'.slots ≤ e.platform.maxSlots
      omega
  · rw [State.stackLimits_setFrames]; rfl
  · rw [State.stackBytes_setFrames]; rfl
  · refine ⟨?_, Nat.le_refl _, Nat.le_refl _, ?_, ?_, fun a c9 h9 => ⟨c9, h9, rfl, rfl, fun _ _ => rfl⟩⟩
    · obtain ⟨t, ht, -⟩ := State.frames_cons hr
      show T.setVm s.vm = { ((T.setVm s.vm).setFrames (.invoking m args :: below)).setFrames (T.setVm s.vm).frames with heap := T.heap, slotsUsed := T.slotsUsed }
      rw [State.setFrames_setFrames, State.setFrames_self ht]
      rfl
    · show T.slotsUsed = T.slotsUsed + ((T.heap.toList.drop T.heap.size).map (·.slots.size)).sum
      rw [List.drop_eq_nil_of_le (Nat.le_of_eq Array.length_toList)]
      rfl
    · show ((T.heap.toList.drop T.heap.size).map (·.slots.size)).sum ≤ 0
      rw [List.drop_eq_nil_of_le (Nat.le_of_eq Array.length_toList)]
      exact Nat.le_refl _
/-- 'throw new E()': new; dup; invokespecial; athrow -/
theorem vx_throw0 {cc : ByteArray} {pc : Nat} (hexec : p.tables.exec = Jvm.exec) (hb : c.code = cc) (hl : l.stackTraces = false) {own cls : String} {names : List String} {ik ic mc ms : Nat} {A : Nat → Prop}
    (hown : s.vm.findClass own = some m.cls) (hcls : Bundle.fit cls = true) (hnames : ∀ n ∈ names, Bundle.fit n = true)
    (hk : (Cond.classLink own ik cls).before args s = true) (hini : (Cond.initialized cls).before args s = true) (hat : ∀ w ∈ vx_at0 own ic cls names, w.before args s = true)
    (hgood : ∀ w ∈ Cond.classLink own ik cls :: Cond.initialized cls :: vx_at0 own ic cls names, vx_ot w = true)
    (hU : vx_Zq Bundle.tN "UNASSIGNED_STACK" Bundle.steD A s s.heap) (hN : vx_Zq Bundle.tN "SUPPRESSED_SENTINEL" Bundle.listD A s s.heap) (hS : va_S A s.heap H locs) (hsize : ls.size = c.maxLocals)
    (d0 : decode cc pc = .ok (.new ik, 3)) (d3 : decode cc (pc + 3) = .ok (.dup, 1)) (d4 : decode cc (pc + 4) = .ok (.invokespecial ic, 3)) (d7 : decode cc (pc + 7) = .ok (.athrow, 1))
    (hout : ∀ x ∈ c.exceptionTable.toList, covers x (pc + 7) = false)
    (hRframes : names.length + 3 < R.frames) (hRlocals : (rest.map fun v => v.category).sum + (13 * (names.length + 1) + 42) ≤ R.locals) (hRcells : cells + 1 ≤ R.cells) (hRslots : slots + 6 ≤ R.slots) (hlocks : meth.locks = false)
    (hx : ∀ t : State, s.vm.Alike t.vm → H.size ≤ t.heap.size → (∀ q : Nat, q < H.size → t.heap[q]? = H[q]?) → XC cls s t)
    (hf : ∀ z ∈ locs, free z.base) (hc : cells + 1 ≤ mc) (hs : slots + 6 ≤ ms) :
    W p l e R s m args below meth c H locs cells slots (vx_MQ below Qc XC args s mc ms free) (F0 m pc ls rest) := by
  intro T hT X
  have htr : e.platform.stackTraces = false := (show e.platform.stackTraces = l.stackTraces by rw [X.admits.platform]).trans hl
  have Y := vx_rebase X (R' := { frames := R.frames, locals := R.locals, cells := 1, slots := 6 }) (Nat.le_refl _) (Nat.le_refl _) hRcells hRslots
  obtain ⟨s', hA⟩ : ∃ z, z = (T.setVm s.vm).setFrames (.invoking m args :: below) := ⟨_, rfl⟩
  rw [← hA] at Y
  have hvm : s'.vm = s.vm := by rw [hA]; rfl
  have hhp : s'.heap = H := by rw [hA]; exact hT
  have hW0 : s.WarmedH s'.vm := by rw [hvm]; exact State.WarmedH.refl s
  have hat' : ∀ w ∈ vx_at0 own ic cls names, w.before args s' = true := fun w hw => vx_ot_at hW0 hvm.symm (hgood w (List.mem_cons_of_mem _ (List.mem_cons_of_mem _ hw))) (hat w hw)
  have hk' : (Cond.classLink own ik cls).before args s' = true := vx_ot_at hW0 hvm.symm (hgood _ List.mem_cons_self) hk
  have hini' : (Cond.initialized cls).before args s' = true := vx_ot_at hW0 hvm.symm (hgood _ (List.mem_cons_of_mem _ List.mem_cons_self)) hini
  have hU' : vx_Zq Bundle.tN "UNASSIGNED_STACK" Bundle.steD A s' s'.heap := by rw [hhp]; exact vx_Zq.moved hW0.alike (hU.kept hS.2.1)
  have hN' : vx_Zq Bundle.tN "SUPPRESSED_SENTINEL" Bundle.listD A s' s'.heap := by rw [hhp]; exact vx_Zq.moved hW0.alike (hN.kept hS.2.1)
  have h : ∀ w ∈ Bundle.ownAtoms0 own ic cls names, w.before args s' = true := vx_own hat' (vx_isRefq hU'.1) (vx_isRefq hN'.1) hU'.2.word hN'.2.word
  have hown' : s'.vm.findClass own = some m.cls := by rw [hvm]; exact hown
  have hins : (Cond.instantiable cls 6).before args s' = true := h _ (by simp [Bundle.ownAtoms0])
  obtain ⟨vm₁, cX, kX, hfX, hkX, -, -, X₁, st1⟩ := Y.newCold hexec (own := own) (C := cls) (index := ik) (n := 6) hown' hk' hins hini'
    (g := F0 m pc ls rest) rfl (by rw [hb]; exact d0) (Nat.le_refl _) (Nat.le_refl _)
  generalize hT1 : (T.setVm vm₁).pushCell { cls := cX, slots := kX.instanceTypes.map defaultValue, vm := .none } = T1 at X₁ st1
  have hcat : (Value.ref T.heap.size).category = 1 := rfl
  have hcellA : T1.heap[T.heap.size]? = some (freshCell cX kX) := by rw [← hT1]; exact State.heap_pushCell_size _ _
  have d3' : decode c.code (pc + 3) = .ok (.dup, 1) := by rw [hb]; exact d3
  obtain ⟨U, hsteps, hrun, hend, hW, hsame, ce, hce, hO⟩ := X₁.ctorThrow0 hexec htr (own := own) (cls := cls) (names := names) (ic := ic) hown' hcls hnames h (fun x hx => nomatch hx) hfX hkX hcellA (by rw [hhp, hT]; exact Nat.le_refl _)
    (g := { method := m, pc := pc + 4, locals := ls, stack := .ref T.heap.size :: .ref T.heap.size :: rest, locked := none }) rfl hsize rfl rfl (rest := rest) rfl
    (by rw [hb]; exact d4) (by rw [hb]; exact d7) hout hRframes (by simp only [List.map_cons, List.sum_cons, hcat]; omega) hlocks
  obtain ⟨f1, f2⟩ := vx_frame hsame
  rw [hhp] at f1 f2
  have hWs : s.WarmedH U.vm := State.WarmedH.trans hW0 hW
  have hcl : s.vm.findClass cls = some ce.cls := by
    have h9 := hO.cls
    rw [hvm] at h9
    exact h9
  have hall : s.sameButNew ({ U with vm := s.vm } : State) locs mc ms := by
    subst hA
    obtain ⟨e1, e2⟩ := hsame
    rw [State.setFrames_setFrames] at e1
    have h2 : (T.setVm s.vm).sameButNew ({ U with vm := s.vm } : State) [] (0 + 1) (0 + 6) := ⟨e1, e2⟩
    have h3 := X.same.trans h2
    rw [List.append_nil] at h3
    exact h3.mono hc hs
  refine ⟨U, ?_, .threw T.heap.size, hrun, hend, Or.inr ⟨T.heap.size, rfl, cls, ce, locs, hx U hWs.alike f1 (fun q hq => f2 q hq (fun z hz => nomatch hz)), hce, hO.vm, hcl, hWs, hall, hf⟩⟩
  refine st1 _ ?_
  show Steps p.tables e below (T1.setTop { method := m, pc := pc + 3, locals := ls, stack := .ref T.heap.size :: rest, locked := none }) _
  jvm_step X₁.here [X₁.here.top, hexec, d3', Value.category]
  exact hsteps
/-- 'throw new E("text")': new; dup; ldc; invokespecial; athrow -/
theorem vx_throwS {cc : ByteArray} {pc : Nat} (hexec : p.tables.exec = Jvm.exec) (hb : c.code = cc) (hl : l.stackTraces = false) {own cls text : String} {names : List String} {ik is ic mc ms sa : Nat} {A : Nat → Prop}
    (hown : s.vm.findClass own = some m.cls) (hcls : Bundle.fit cls = true) (hnames : ∀ n ∈ names, Bundle.fit n = true)
    (hk : (Cond.classLink own ik cls).before args s = true) (hini : (Cond.initialized cls).before args s = true) (hstr : vk_R own is text sa s) (hat : ∀ w ∈ vx_atS own ic cls names, w.before args s = true)
    (hgood : ∀ w ∈ Cond.classLink own ik cls :: Cond.initialized cls :: vx_atS own ic cls names, vx_ot w = true)
    (hU : vx_Zq Bundle.tN "UNASSIGNED_STACK" Bundle.steD A s s.heap) (hN : vx_Zq Bundle.tN "SUPPRESSED_SENTINEL" Bundle.listD A s s.heap) (hS : va_S A s.heap H locs) (hsize : ls.size = c.maxLocals)
    (d0 : decode cc pc = .ok (.new ik, 3)) (d3 : decode cc (pc + 3) = .ok (.dup, 1)) (d4 : decode cc (pc + 4) = .ok (.ldc is, 2)) (d6 : decode cc (pc + 6) = .ok (.invokespecial ic, 3)) (d9 : decode cc (pc + 9) = .ok (.athrow, 1))
    (hout : ∀ x ∈ c.exceptionTable.toList, covers x (pc + 9) = false)
    (hRframes : names.length + 3 < R.frames) (hRlocals : (rest.map fun v => v.category).sum + (13 * (names.length + 1) + 43) ≤ R.locals) (hRcells : cells + 1 ≤ R.cells) (hRslots : slots + 6 ≤ R.slots) (hlocks : meth.locks = false)
    (hx : ∀ t : State, s.vm.Alike t.vm → H.size ≤ t.heap.size → (∀ q : Nat, q < H.size → t.heap[q]? = H[q]?) → XC cls s t)
    (hf : ∀ z ∈ locs, free z.base) (hc : cells + 1 ≤ mc) (hs : slots + 6 ≤ ms) :
    W p l e R s m args below meth c H locs cells slots (vx_MQ below Qc XC args s mc ms free) (F0 m pc ls rest) := by
  intro T hT X
  have htr : e.platform.stackTraces = false := (show e.platform.stackTraces = l.stackTraces by rw [X.admits.platform]).trans hl
  have Y := vx_rebase X (R' := { frames := R.frames, locals := R.locals, cells := 1, slots := 6 }) (Nat.le_refl _) (Nat.le_refl _) hRcells hRslots
  obtain ⟨s', hA⟩ : ∃ z, z = (T.setVm s.vm).setFrames (.invoking m args :: below) := ⟨_, rfl⟩
  rw [← hA] at Y
  have hvm : s'.vm = s.vm := by rw [hA]; rfl
  have hhp : s'.heap = H := by rw [hA]; exact hT
  have hW0 : s.WarmedH s'.vm := by rw [hvm]; exact State.WarmedH.refl s
  have hat' : ∀ w ∈ vx_atS own ic cls names, w.before args s' = true := fun w hw => vx_ot_at hW0 hvm.symm (hgood w (List.mem_cons_of_mem _ (List.mem_cons_of_mem _ hw))) (hat w hw)
  have hk' : (Cond.classLink own ik cls).before args s' = true := vx_ot_at hW0 hvm.symm (hgood _ List.mem_cons_self) hk
  have hini' : (Cond.initialized cls).before args s' = true := vx_ot_at hW0 hvm.symm (hgood _ (List.mem_cons_of_mem _ List.mem_cons_self)) hini
  have hU' : vx_Zq Bundle.tN "UNASSIGNED_STACK" Bundle.steD A s' s'.heap := by rw [hhp]; exact vx_Zq.moved hW0.alike (hU.kept hS.2.1)
  have hN' : vx_Zq Bundle.tN "SUPPRESSED_SENTINEL" Bundle.listD A s' s'.heap := by rw [hhp]; exact vx_Zq.moved hW0.alike (hN.kept hS.2.1)
  have h : ∀ w ∈ Bundle.ownAtoms own ic cls names, w.before args s' = true := vx_own hat' (vx_isRefq hU'.1) (vx_isRefq hN'.1) hU'.2.word hN'.2.word
  have hown' : s'.vm.findClass own = some m.cls := by rw [hvm]; exact hown
  have hins : (Cond.instantiable cls 6).before args s' = true := h _ (by simp [Bundle.ownAtoms])
  obtain ⟨vm₁, cX, kX, hfX, hkX, -, -, X₁, st1⟩ := Y.newCold hexec (own := own) (C := cls) (index := ik) (n := 6) hown' hk' hins hini'
    (g := F0 m pc ls rest) rfl (by rw [hb]; exact d0) (Nat.le_refl _) (Nat.le_refl _)
  generalize hT1 : (T.setVm vm₁).pushCell { cls := cX, slots := kX.instanceTypes.map defaultValue, vm := .none } = T1 at X₁ st1
  have hcat : (Value.ref T.heap.size).category = 1 := rfl
  have hcellA : T1.heap[T.heap.size]? = some (freshCell cX kX) := by rw [← hT1]; exact State.heap_pushCell_size _ _
  have d3' : decode c.code (pc + 3) = .ok (.dup, 1) := by rw [hb]; exact d3
  have d4' : decode c.code (pc + 4) = .ok (.ldc is, 2) := by rw [hb]; exact d4
  have hstr' : vk_R own is text sa s' := vk_R.warm hW0 hstr
  obtain ⟨U, hsteps, hrun, hend, hW, hsame, ce, hce, hO⟩ := X₁.ctorThrowS hexec htr (own := own) (cls := cls) (names := names) (ic := ic) hown' hcls hnames h (fun x hx => nomatch hx) hfX hkX hcellA (by rw [hhp, hT]; exact Nat.le_refl _) (msg := .ref sa) rfl
    (g := { method := m, pc := pc + 6, locals := ls, stack := .ref sa :: .ref T.heap.size :: .ref T.heap.size :: rest, locked := none }) rfl hsize rfl rfl (rest := rest) rfl
    (by rw [hb]; exact d6) (by rw [hb]; exact d9) hout hRframes (by simp only [List.map_cons, List.sum_cons, hcat]; omega) hlocks
  obtain ⟨f1, f2⟩ := vx_frame hsame
  rw [hhp] at f1 f2
  have hWs : s.WarmedH U.vm := State.WarmedH.trans hW0 hW
  have hcl : s.vm.findClass cls = some ce.cls := by
    have h9 := hO.cls
    rw [hvm] at h9
    exact h9
  have hall : s.sameButNew ({ U with vm := s.vm } : State) locs mc ms := by
    subst hA
    obtain ⟨e1, e2⟩ := hsame
    rw [State.setFrames_setFrames] at e1
    have h2 : (T.setVm s.vm).sameButNew ({ U with vm := s.vm } : State) [] (0 + 1) (0 + 6) := ⟨e1, e2⟩
    have h3 := X.same.trans h2
    rw [List.append_nil] at h3
    exact h3.mono hc hs
  refine ⟨U, ?_, .threw T.heap.size, hrun, hend, Or.inr ⟨T.heap.size, rfl, cls, ce, locs, hx U hWs.alike f1 (fun q hq => f2 q hq (fun z hz => nomatch hz)), hce, hO.vm, hcl, hWs, hall, hf⟩⟩
  refine st1 _ ?_
  show Steps p.tables e below (T1.setTop { method := m, pc := pc + 3, locals := ls, stack := .ref T.heap.size :: rest, locked := none }) _
  jvm_step X₁.here [X₁.here.top, hexec, d3', Value.category]
  exact X₁.ldcString hexec (own := own) (text := text) (index := is) (a := sa) hown' hstr'.1 hstr'.2
    (g := { method := m, pc := pc + 4, locals := ls, stack := .ref T.heap.size :: .ref T.heap.size :: rest, locked := none }) rfl d4' _ hsteps
/-- 'throw new E("text")', the text by a wide index -/
theorem vx_throwSW {cc : ByteArray} {pc : Nat} (hexec : p.tables.exec = Jvm.exec) (hb : c.code = cc) (hl : l.stackTraces = false) {own cls text : String} {names : List String} {ik is ic mc ms sa : Nat} {A : Nat → Prop}
    (hown : s.vm.findClass own = some m.cls) (hcls : Bundle.fit cls = true) (hnames : ∀ n ∈ names, Bundle.fit n = true)
    (hk : (Cond.classLink own ik cls).before args s = true) (hini : (Cond.initialized cls).before args s = true) (hstr : vk_R own is text sa s) (hat : ∀ w ∈ vx_atS own ic cls names, w.before args s = true)
    (hgood : ∀ w ∈ Cond.classLink own ik cls :: Cond.initialized cls :: vx_atS own ic cls names, vx_ot w = true)
    (hU : vx_Zq Bundle.tN "UNASSIGNED_STACK" Bundle.steD A s s.heap) (hN : vx_Zq Bundle.tN "SUPPRESSED_SENTINEL" Bundle.listD A s s.heap) (hS : va_S A s.heap H locs) (hsize : ls.size = c.maxLocals)
    (d0 : decode cc pc = .ok (.new ik, 3)) (d3 : decode cc (pc + 3) = .ok (.dup, 1)) (d4 : decode cc (pc + 4) = .ok (.ldc_w is, 3)) (d7 : decode cc (pc + 7) = .ok (.invokespecial ic, 3)) (d10 : decode cc (pc + 10) = .ok (.athrow, 1))
    (hout : ∀ x ∈ c.exceptionTable.toList, covers x (pc + 10) = false)
    (hRframes : names.length + 3 < R.frames) (hRlocals : (rest.map fun v => v.category).sum + (13 * (names.length + 1) + 43) ≤ R.locals) (hRcells : cells + 1 ≤ R.cells) (hRslots : slots + 6 ≤ R.slots) (hlocks : meth.locks = false)
    (hx : ∀ t : State, s.vm.Alike t.vm → H.size ≤ t.heap.size → (∀ q : Nat, q < H.size → t.heap[q]? = H[q]?) → XC cls s t)
    (hf : ∀ z ∈ locs, free z.base) (hc : cells + 1 ≤ mc) (hs : slots + 6 ≤ ms) :
    W p l e R s m args below meth c H locs cells slots (vx_MQ below Qc XC args s mc ms free) (F0 m pc ls rest) := by
  intro T hT X
  have htr : e.platform.stackTraces = false := (show e.platform.stackTraces = l.stackTraces by rw [X.admits.platform]).trans hl
  have Y := vx_rebase X (R' := { frames := R.frames, locals := R.locals, cells := 1, slots := 6 }) (Nat.le_refl _) (Nat.le_refl _) hRcells hRslots
  obtain ⟨s', hA⟩ : ∃ z, z = (T.setVm s.vm).setFrames (.invoking m args :: below) := ⟨_, rfl⟩
  rw [← hA] at Y
  have hvm : s'.vm = s.vm := by rw [hA]; rfl
  have hhp : s'.heap = H := by rw [hA]; exact hT
  have hW0 : s.WarmedH s'.vm := by rw [hvm]; exact State.WarmedH.refl s
  have hat' : ∀ w ∈ vx_atS own ic cls names, w.before args s' = true := fun w hw => vx_ot_at hW0 hvm.symm (hgood w (List.mem_cons_of_mem _ (List.mem_cons_of_mem _ hw))) (hat w hw)
  have hk' : (Cond.classLink own ik cls).before args s' = true := vx_ot_at hW0 hvm.symm (hgood _ List.mem_cons_self) hk
  have hini' : (Cond.initialized cls).before args s' = true := vx_ot_at hW0 hvm.symm (hgood _ (List.mem_cons_of_mem _ List.mem_cons_self)) hini
  have hU' : vx_Zq Bundle.tN "UNASSIGNED_STACK" Bundle.steD A s' s'.heap := by rw [hhp]; exact vx_Zq.moved hW0.alike (hU.kept hS.2.1)
  have hN' : vx_Zq Bundle.tN "SUPPRESSED_SENTINEL" Bundle.listD A s' s'.heap := by rw [hhp]; exact vx_Zq.moved hW0.alike (hN.kept hS.2.1)
  have h : ∀ w ∈ Bundle.ownAtoms own ic cls names, w.before args s' = true := vx_own hat' (vx_isRefq hU'.1) (vx_isRefq hN'.1) hU'.2.word hN'.2.word
  have hown' : s'.vm.findClass own = some m.cls := by rw [hvm]; exact hown
  have hins : (Cond.instantiable cls 6).before args s' = true := h _ (by simp [Bundle.ownAtoms])
  obtain ⟨vm₁, cX, kX, hfX, hkX, -, -, X₁, st1⟩ := Y.newCold hexec (own := own) (C := cls) (index := ik) (n := 6) hown' hk' hins hini'
    (g := F0 m pc ls rest) rfl (by rw [hb]; exact d0) (Nat.le_refl _) (Nat.le_refl _)
  generalize hT1 : (T.setVm vm₁).pushCell { cls := cX, slots := kX.instanceTypes.map defaultValue, vm := .none } = T1 at X₁ st1
  have hcat : (Value.ref T.heap.size).category = 1 := rfl
  have hcellA : T1.heap[T.heap.size]? = some (freshCell cX kX) := by rw [← hT1]; exact State.heap_pushCell_size _ _
  have d3' : decode c.code (pc + 3) = .ok (.dup, 1) := by rw [hb]; exact d3
  have d4' : decode c.code (pc + 4) = .ok (.ldc_w is, 3) := by rw [hb]; exact d4
  have hstr' : vk_R own is text sa s' := vk_R.warm hW0 hstr
  obtain ⟨U, hsteps, hrun, hend, hW, hsame, ce, hce, hO⟩ := X₁.ctorThrowS hexec htr (own := own) (cls := cls) (names := names) (ic := ic) hown' hcls hnames h (fun x hx => nomatch hx) hfX hkX hcellA (by rw [hhp, hT]; exact Nat.le_refl _) (msg := .ref sa) rfl
    (g := { method := m, pc := pc + 7, locals := ls, stack := .ref sa :: .ref T.heap.size :: .ref T.heap.size :: rest, locked := none }) rfl hsize rfl rfl (rest := rest) rfl
    (by rw [hb]; exact d7) (by rw [hb]; exact d10) hout hRframes (by simp only [List.map_cons, List.sum_cons, hcat]; omega) hlocks
  obtain ⟨f1, f2⟩ := vx_frame hsame
  rw [hhp] at f1 f2
  have hWs : s.WarmedH U.vm := State.WarmedH.trans hW0 hW
  have hcl : s.vm.findClass cls = some ce.cls := by
    have h9 := hO.cls
    rw [hvm] at h9
    exact h9
  have hall : s.sameButNew ({ U with vm := s.vm } : State) locs mc ms := by
    subst hA
    obtain ⟨e1, e2⟩ := hsame
    rw [State.setFrames_setFrames] at e1
    have h2 : (T.setVm s.vm).sameButNew ({ U with vm := s.vm } : State) [] (0 + 1) (0 + 6) := ⟨e1, e2⟩
    have h3 := X.same.trans h2
    rw [List.append_nil] at h3
    exact h3.mono hc hs
  refine ⟨U, ?_, .threw T.heap.size, hrun, hend, Or.inr ⟨T.heap.size, rfl, cls, ce, locs, hx U hWs.alike f1 (fun q hq => f2 q hq (fun z hz => nomatch hz)), hce, hO.vm, hcl, hWs, hall, hf⟩⟩
  refine st1 _ ?_
  show Steps p.tables e below (T1.setTop { method := m, pc := pc + 3, locals := ls, stack := .ref T.heap.size :: rest, locked := none }) _
  jvm_step X₁.here [X₁.here.top, hexec, d3', Value.category]
  exact X₁.ldcStringW hexec (own := own) (text := text) (index := is) (a := sa) hown' hstr'.1 hstr'.2
    (g := { method := m, pc := pc + 4, locals := ls, stack := .ref T.heap.size :: .ref T.heap.size :: rest, locked := none }) rfl d4' _ hsteps
end Ends
section Bodies
variable {l : Launch}
theorem vx_ofW {y : MethodName} {ws ws' : List Cond} {rm : Room} {Pc : Array Value → State → Prop} {Qc : Array Value → State → Outcome → State → Prop} {XC : String → State → State → Prop} {mc ms : Nat} {free : Addr → Prop} {cc : ByteArray} {maxL : Nat} {ret : Option FieldType}
    (hy : plainName y.cls = true) (hw : ws = Cond.code y cc maxL ret :: ws')
    (body : ∀ p e s m args below meth c s₁, BodyLoose p l y (headSpec ws rm) cc maxL ret e s m args below meth c s₁ → c.maxLocals = maxL → (∀ x ∈ c.exceptionTable.toList, False) → Pc args s →
      W p l e (headSpec ws rm).room s m args below meth c s.heap [] 0 0 (vx_MQ below Qc XC args s mc ms free) (entryFrame m args maxL)) : vx_Met l y ws rm Pc Qc XC mc ms free := by
  refine MetFree.of_bodyS (code := cc) (maxLocals := maxL) (ret := ret) hy ?_ ?_
  · intro args s m h hn
    obtain ⟨meth, c, h1, h2, h3, h4, h5, h6, -, -⟩ := Cond.code_spec hn (atoms_spec (ws := ws) h _ (by rw [hw]; exact List.mem_cons_self))
    exact ⟨meth, c, h1, h2, h3, h4, h5, h6⟩
  · intro p e s m args below meth c s₁ B hml hP _
    have hh0 : s₁.heap = s.heap := by rw [B.state]; rfl
    have ht : ∀ x ∈ c.exceptionTable.toList, False := by
      obtain ⟨meth9, c9, h1, h2, -, -, -, -, h7, -⟩ := Cond.code_spec B.named (atoms_spec (ws := ws) B.pre _ (by rw [hw]; exact List.mem_cons_self))
      cases Option.some.inj (h1.symm.trans B.method)
      cases Option.some.inj (h2.symm.trans (Stand.of_body B).code)
      intro x hx
      rw [Array.isEmpty_iff.mp h7] at hx
      cases hx
    obtain ⟨t, a1, o, b1, b2, b3⟩ := body p e s m args below meth c s₁ B hml ht hP s₁ hh0 (Stand.of_body B)
    exact ⟨t, o, a1, b1, b2, b3⟩
/-- the table of a body with handlers -/
theorem vx_table {p : Program} {x y : MethodName} {S : Spec} {cc bytes : ByteArray} {maxL maxL' : Nat} {ret ret' : Option FieldType} {e : Env} {s s₁ : State} {m : MethodId} {args : Array Value} {below : List Frame} {meth : Method} {c : Code} {hh : List (Nat × Nat × Nat × Nat)}
    (B : BodyLoose p l y S cc maxL ret e s m args below meth c s₁) (h : (Cond.codeWith y bytes maxL' ret' hh).before args s = true) : c.exceptionTable.toList = tableOf hh := by
  obtain ⟨m9, meth9, c9, hn9, h1, h2, -, -, h6, -⟩ := Cond.codeWith_spec h
  cases Option.some.inj (hn9.symm.trans B.named)
  cases Option.some.inj (h1.symm.trans B.method)
  cases Option.some.inj (h2.symm.trans (Stand.of_body B).code)
  rw [← h6, table_eq]
end Bodies
end VXA
/-! ===== END ===== -/
/-! ===== BEGIN a static call of a method with an exception table ===== -/
section VXS
variable {p : Program} {l : Launch} {e : Env} {R : Room} {s : State} {m : MethodId} {args : Array Value} {below : List Frame} {meth : Method} {c : Code} {T : State} {H : Heap} {locs : List Loc} {cells slots : Nat}
abbrev vx_CSW (R : Room) (s : State) (args : Array Value) (own : String) (index : Nat) (y : MethodName) (bytes : ByteArray) (maxL : Nat) (ret : Option FieldType) (hh : List (Nat × Nat × Nat × Nat)) (ws : List Cond) (rm : Room) (mc ms n : Nat) : Prop :=
  (rm.cells = mc ∧ rm.slots = ms ∧ rm.frames + 1 ≤ R.frames ∧ 8 + (maxL + 11) + rm.locals ≤ R.locals ∧ (∀ w ∈ ws, ∀ (a' : Array Value) (U : State), s.WarmedH U.vm → w.before a' U = true) ∧ Cond.codeWith y bytes maxL ret hh ∈ ws) ∧
  (Cond.codeWith y bytes maxL ret hh).before args s = true ∧ (Cond.initialized y.cls).before args s = true ∧ (y.cls ≠ "java/lang/invoke/MethodHandle" ∧ y.cls ≠ "java/lang/invoke/VarHandle") ∧
  (∀ sig, parseMethodDescriptor y.desc = some sig → n = sig.parameters.length) ∧ (Cond.methodLink own index y).before args s = true ∧ (Cond.static y).before args s = true
theorem vx_cwSW {own : String} {index maxL mc ms : Nat} {y : MethodName} {bytes : ByteArray} {ret : Option FieldType} {hh : List (Nat × Nat × Nat × Nat)} {Ts ws ws' : List Cond} {rm : Room} (n : Nat) (ht : ∀ w ∈ Ts, w.before args s = true) (hT : GoodIn Ts (va_wsS own index y ws)) (hw : ws = Cond.codeWith y bytes maxL ret hh :: ws') (hrc : rm.cells = mc) (hrs : rm.slots = ms)
    (hd : y.cls ≠ "java/lang/invoke/MethodHandle" ∧ y.cls ≠ "java/lang/invoke/VarHandle" ∧ (parseMethodDescriptor y.desc).map (fun d => d.parameters.length) = some n) (hR : rm.frames + 1 ≤ R.frames ∧ 8 + (maxL + 11) + rm.locals ≤ R.locals) :
    vx_CSW R s args own index y bytes maxL ret hh ws rm mc ms n := by
  have ok : ∀ w ∈ va_wsS own index y ws, w.before args s = true := fun w h => ht w (hT w h).1
  have hG : GoodIn Ts ws := fun w h => hT w (by unfold va_wsS; exact List.mem_append_right _ h)
  have hc : Cond.codeWith y bytes maxL ret hh ∈ ws := by rw [hw]; exact List.mem_cons_self
  refine ⟨⟨hrc, hrs, hR.1, hR.2, pay_in ht hG, hc⟩, ht _ (hG _ hc).1, ok _ (by simp [va_wsS]), ⟨hd.1, hd.2.1⟩, fun sig h => ?_, ok _ (by simp [va_wsS]), ok _ (by simp [va_wsS])⟩
  have h2 := hd.2.2
  rw [h] at h2
  exact (Option.some.inj h2).symm
theorem vx_callSW (X : Stand p l e R s m args below meth c T locs cells slots) (hexec : p.tables.exec = Jvm.exec) {own : String} {index : Nat} {y : MethodName} {bytes : ByteArray} {maxL : Nat} {ret : Option FieldType} {hh : List (Nat × Nat × Nat × Nat)}
    (hown : s.vm.findClass own = some m.cls) (hlink : (Cond.methodLink own index y).before args s = true) (hstat : (Cond.static y).before args s = true) (hinit : (Cond.initialized y.cls).before args s = true)
    (hcode : (Cond.codeWith y bytes maxL ret hh).before args s = true) (hy : y.cls ≠ "java/lang/invoke/MethodHandle" ∧ y.cls ≠ "java/lang/invoke/VarHandle")
    {W9 : Nat} {Pre : Pt → Array Value → Prop} {Post : Pt → Array Value → Option Value → Pt → Prop} (hK : Back l R p e below s args y 3 W9 Pre Post)
    {g : JFrame} (hg : g.method = m) (hsize : g.locals.size = c.maxLocals) {argsL rest : List Value} (hlen : ∀ sig, parseMethodDescriptor y.desc = some sig → argsL.length = sig.parameters.length)
    (hstack : g.stack = argsL.reverse ++ rest) (hW : 2 * g.monitorRoom + (rest.map fun v => v.category).sum ≤ W9) (hdg : decode c.code g.pc = .ok (.invokestatic index, 3))
    (hpre : ∀ vm₁, s.WarmedH vm₁ → Pre ⟨T.setVm vm₁, locs, cells, slots⟩ argsL.toArray) :
    ∃ (v : Option Value) (vm₁ : Vm) (B : Pt), s.WarmedH vm₁ ∧ Stand p l e R s m args below meth c B.U B.locs B.cells B.slots ∧ Post ⟨T.setVm vm₁, locs, cells, slots⟩ argsL.toArray v B ∧
      ∀ target, Steps p.tables e below (B.U.setTop { g with pc := g.pc + 3, stack := v.toList ++ rest }) target → Steps p.tables e below (T.setTop g) target := by
  obtain ⟨mk, methM, cM, hnamed, hmethM, -, -, -, -, -, -, hsigM⟩ := Cond.codeWith_spec hcode
  have hstatic : methM.isStatic = true := Cond.static_spec hnamed hmethM hstat
  obtain ⟨kP, hkP, -⟩ := className_of_methodNamed hnamed
  have hinitP : kP.init = .initialized := Cond.initialized_spec (findClass_of_methodNamed hnamed) hkP hinit
  obtain ⟨vm₁, X₁, hstep₁⟩ := X.invokestatic hexec hown hlink hnamed hmethM hstatic hkP hinitP hy (g := g) hg (argsL := argsL) (rest := rest) (hlen _ hsigM) hstack hdg
  obtain ⟨v, B, X', hpost, hsteps⟩ := hK m meth c ⟨T.setVm vm₁, locs, cells, slots⟩ { g with stack := rest } (.invokestatic index) mk argsL.toArray X₁ hg hsize hdg hW (X₁.named hnamed) (hpre vm₁ X₁.warmed)
  exact ⟨v, vm₁, B, X₁.warmed, X', hpost, fun target h => hstep₁ _ fun acts => by rw [doInvoke_state]; exact hsteps.trans h⟩
theorem vx_runSW {y : MethodName} {bytes cc : ByteArray} {maxL nL mc ms n index : Nat} {ret : Option FieldType} {hh : List (Nat × Nat × Nat × Nat)} {ws : List Cond} {rm : Room} {Pc : Array Value → State → Prop} {Qc : Array Value → State → Outcome → State → Prop} {free : Addr → Prop} {Ts : List Cond} {own : String} {As rest : List Value} {g : JFrame}
    (S : CallFix p m c cc nL s args Ts own) (hM : Met l y ws rm Pc Qc mc ms free) (cw : vx_CSW R s args own index y bytes maxL ret hh ws rm mc ms n) (hp : PreS s H Pc As)
    (hg : g.method = m) (hn : As.length = n) (hsize : g.locals.size = nL) (hstack : g.stack = As.reverse ++ rest) (hW : 2 * g.monitorRoom + (rest.map fun v => v.category).sum ≤ 8) (hdg : decode cc g.pc = .ok (.invokestatic index, 3)) (hf : cells + mc ≤ R.cells ∧ slots + ms ≤ R.slots) :
    va_Run p l e R s m args below meth c H locs cells slots mc ms g rest (Qc As.toArray) (free) := by
  obtain ⟨⟨hrc, hrs, hfr, hlo, hws, hcw⟩, hcode, hini, hy, hlen, hl, hstt⟩ := cw
  have hK : Back l R p e below s args y 3 8 (PreOf R mc ms Pc) (PostOf Qc mc ms free) := va_backW (hh := hh) (bytes := bytes) (maxL := maxL) (ret := ret) hM hp.1 hrc hrs hfr hlo hws hcw (fun a' U hW => word_at hW (Or.inl (by first | rfl | simp [Cond.onTables, Cond.keeps, Cond.steady])) hini)
  obtain ⟨hx, hb, hml, ho, -⟩ := S
  intro T hT X
  obtain ⟨v, vm₁, ⟨U', l2, c2, s2⟩, hW₁, X', ⟨g', mk, t, L, e1, e2, hq, h1, hL, h2, h3⟩, st⟩ := vx_callSW X hx (hh := hh) (bytes := bytes) (maxL := maxL) (ret := ret) ho hl hstt hini hcode hy hK hg (hsize.trans hml.symm) (argsL := As) (rest := rest) (fun sig h => hn.trans (hlen sig h)) hstack hW (by rw [hb]; exact hdg)
    (fun vm₁ hW₁ => ⟨hf.1, hf.2, hp.2 (T.setVm vm₁) hT hW₁⟩)
  dsimp only [Pt.U, Pt.locs, Pt.cells, Pt.slots] at X' e1 e2 h1 h2 h3 st
  subst h1; subst h2; subst h3
  exact ⟨v, (T.setVm vm₁).calling g' mk As.toArray, t, U', L, hT, X', hL, e1, e2, hq, st⟩
/-- not caught here, past rows that name other classes: it goes on to the caller -/
theorem vx_outP {p : Program} {l : Launch} {e : Env} {R : Room} {s : State} {m : MethodId} {args : Array Value} {below : List Frame} {meth : Method} {c : Code} {H : Heap} {locs : List Loc} {cells slots : Nat} {free : Addr → Prop} {ls : Array Slot} {rest : List Value} {Qc : Array Value → State → Outcome → State → Prop} {XC : String → State → State → Prop}
    {pc : Nat} {own E : String} {ce : Cell} {q : Addr} {mc ms : Nat} (hown : s.vm.findClass own = some m.cls) (hlocks : meth.locks = false)
    (hpass : ∀ z ∈ c.exceptionTable.toList, covers z pc = false ∨ (z.catchType ≠ 0 ∧ ∃ nm : String, (Cond.classLink own z.catchType nm).before args s = true ∧ va_Nc E nm s)) (hcell : H[q]? = some ce) (hv : ce.vm = .none) (hcl : s.vm.findClass E = some ce.cls)
    (hx : ∀ t : State, t.heap = H → s.vm.Alike t.vm → XC E s t) (hf : ∀ z ∈ locs, free z.base) (hc : cells ≤ mc) (hs : slots ≤ ms) :
    vx_W p l e R s m args below meth c H locs cells slots (vx_MQ below Qc XC args s mc ms free) (F0 m pc ls rest) q := by
  intro T hT X
  have hpl : e.platform.magicAccessors = ({} : Platform).magicAccessors := by rw [X.admits.platform]
  obtain ⟨vm', hW', X', st⟩ := X.outThrough hlocks q (g := F0 m pc ls rest) rfl rfl rfl (cell := ce) (by rw [hT]; exact hcell) (by rw [hv]; rfl)
    (by obtain ⟨k9, h9, -⟩ := Vm.findClass_spec hcl; exact ⟨k9, h9⟩) (fun z hz => by
      rcases hpass z hz with h | ⟨hz0, nm, hl1, hn1⟩
      · exact Or.inl h
      · obtain ⟨c6, hc6, hcl6⟩ := Cond.classLink_spec hown hl1 e.platform hpl
        obtain ⟨a8, b8, h1, h2, h3⟩ := hn1
        cases Option.some.inj (h1.symm.trans hcl)
        cases Option.some.inj (h2.symm.trans hc6)
        exact Or.inr ⟨hz0, _, hcl6, h3⟩)
  obtain ⟨g₀, hfr⟩ := X'.frames_eq
  have hcell9 : ((T.setVm vm').setFrames (.throwing q :: below)).heap[q]? = some ce := by
    show T.heap[q]? = some ce
    rw [hT]; exact hcell
  have hend : Ended ((T.setVm vm').setFrames (.throwing q :: below)) below (.threw q) := State.frames_setFrames _ (State.cur_lt_of_frames hfr)
  refine ⟨(T.setVm vm').setFrames (.throwing q :: below), ?_, .threw q, X'.here.running, hend, Or.inr ⟨q, rfl, E, ce, locs, hx _ hT (X'.ends _).1.alike, hcell9, hv, hcl, (X'.ends _).1, (X'.ends _).2.mono hc hs, hf⟩⟩
  rw [X.pushThrowing_eq]
  exact st
/-- a thing of a world lies in the heap -/
theorem vx_lt {D : va_G} {cl : List vw_C} {ws : va_W} {H1 : Heap} (h : va_P D cl ws H1) {k : Nat} {q : Nat × va_E} (hk : ws[k]? = some q) : q.1 < H1.size := (h k q hk).lt
end VXS
/-! ===== END ===== -/
/-! ===== BEGIN methods with a table of their own: called by a name, returning or throwing ===== -/
section VXH
/-! vx_backW, vx_callVX, vx_callSX, vx_callVW, vx_runVW, vx_runVX, vx_runSX, vx_ofWH follow the same proofs as their sisters above (Free/Laws.lean, Shelf42/LK1.lean); vx_outP calls Shelf42/NT130.lean (outThrough). -/
section
variable {l : Launch} {R : Room} {p : Program} {e : Env} {below : List Frame} {s : State} {sargs : Array Value} {y : MethodName} {len W9 : Nat}
theorem vx_backW {ws : List Cond} {rm : Room} {Pc : Array Value → State → Prop} {Qc : Array Value → State → Outcome → State → Prop} {XC : String → State → State → Prop} {mc ms : Nat} {free : Addr → Prop} {bytes : ByteArray} {maxL : Nat} {ret : Option FieldType} {hh : List (Nat × Nat × Nat × Nat)}
    (hM : vx_Met l y ws rm Pc Qc XC mc ms free) (hblind : FrameBlind Pc) (hrc : rm.cells = mc) (hrs : rm.slots = ms)
    (hframes : rm.frames + 1 ≤ R.frames) (hlocals : W9 + (maxL + 11) + rm.locals ≤ R.locals)
    (hws : ∀ w ∈ ws, ∀ a' U, s.WarmedH U.vm → w.before a' U = true) (hcode : Cond.codeWith y bytes maxL ret hh ∈ ws) (hinit : ∀ a' U, s.WarmedH U.vm → (Cond.initialized y.cls).before a' U = true) :
    vx_Back l R p e below s sargs y len W9 (PreOf R mc ms Pc) (PostOf Qc mc ms free) (vx_Post XC mc ms free) := by
  intro m meth c A g ig mk a X hg hsize hdg hW hn hp
  have h1 : (headSpec ws rm).pre.before a A.U = true := atoms_intro fun w hw => hws w hw _ _ X.warmed
  have h2 : (Cond.codeWith y bytes maxL ret hh).before a A.U = true := hws _ hcode _ _ X.warmed
  have h3 : (Cond.initialized y.cls).before a A.U = true := hinit _ _ X.warmed
  have h4 : A.cells + (headSpec ws rm).room.cells ≤ R.cells := by rw [show (headSpec ws rm).room.cells = mc from hrc]; exact hp.1
  have h5 : A.slots + (headSpec ws rm).room.slots ≤ R.slots := by rw [show (headSpec ws rm).room.slots = ms from hrs]; exact hp.2.1
  have hPc : Pc a (A.U.calling g mk a) := hblind _ _ _ _ hp.2.2
  obtain ⟨U, Ls, c0, s0⟩ := A
  dsimp only [Pt.U, Pt.locs, Pt.cells, Pt.slots] at h1 h2 h3 h4 h5 X hn hPc ⊢
  obtain ⟨m9, methY, cY, hn9, hmY, hcY, -, hlY, -⟩ := Cond.codeWith_spec h2
  cases Option.some.inj (hn9.symm.trans hn)
  obtain ⟨kY, hkY, -⟩ := className_of_methodNamed hn
  have hinitY : kY.init = .initialized := Cond.initialized_spec (findClass_of_methodNamed hn) hkY h3
  have h : At U g.method c below := by rw [hg]; exact X.here
  have hlocals9 : W9 + (maxL + 11) + (headSpec ws rm).room.locals ≤ R.locals := hlocals
  have happ : (headSpec ws rm).appliesLoose y e.platform (U.calling g mk a) = true :=
    Spec.appliesLoose_calling (g := g) h hdg hn hkY hinitY
      (X.room_calling (g := g) (R' := (headSpec ws rm).room) hsize hmY hcY hframes (by rw [hlY]; omega) h4 h5) h1
  obtain ⟨mid, hmid⟩ := h.above
  have hfr : (U.setTop g).frames = (.java g :: mid) ++ below := by rw [State.frames_setTop' g h.top, hmid]; rfl
  obtain ⟨o, s₂, hsteps, -, hend, hq⟩ := Steps.callFree hM p X.admits X.cas X.clock (acts := []) hfr happ hPc trivial
  have hq' : vx_Q Qc XC mc ms free a (U.calling g mk a) o s₂ := hq
  rw [State.frames_setTop' g h.top] at hend
  obtain ⟨g₀, hg0⟩ := Option.isSome_iff_exists.mp h.top
  obtain ⟨r, hr⟩ := State.topJava?_eq_some.mp hg0
  have hr' : (({ U with heap := s₂.heap, slotsUsed := s₂.slotsUsed } : State).setVm s₂.vm).frames = .java g₀ :: r := hr
  rcases hq' with ⟨hqc, L, hfe, hL⟩ | ⟨q, rfl, E, ce, L, hx, hce, hcv, hcl, hW₂, hsm, hL⟩
  · obtain ⟨⟨v, rfl⟩, hW₂, e2, q2, q3, q4, q5, q6⟩ := id hfe
    have e3 : s₂ = ({ (U.calling g mk a).setFrames s₂.frames with heap := s₂.heap, slotsUsed := s₂.slotsUsed } : State).setVm s₂.vm := by
      have : s₂ = ({ s₂ with vm := (U.calling g mk a).vm } : State).setVm s₂.vm := rfl
      rw [e2] at this
      exact this
    obtain ⟨c₂, i₂, len₂, hc₂, hd₂, hf₂⟩ := hend
    have hW' : U.WarmedH s₂.vm := hW₂
    have hcc : c₂ = c := by
      have h1 : s₂.code? g.method = U.code? g.method := by
        rw [State.code?_eq, State.code?_eq, hW'.alike.method?]
      exact Option.some.inj (hc₂.symm.trans (h1.trans h.code))
    subst hcc
    have hlen : len₂ = len := by rw [hdg] at hd₂; cases hd₂; rfl
    subst hlen
    have hs₂ : s₂ = (({ U with heap := s₂.heap, slotsUsed := s₂.slotsUsed } : State).setVm s₂.vm).setTop { g with pc := g.pc + len₂, stack := v.toList ++ g.stack } := by
      refine e3.trans ?_
      rw [hf₂, State.calling_eq h.top, State.setFrames_setFrames, State.setTop_of_frames _ hr', hr]
      rfl
    have hsame : U.sameButNew ({ U with heap := s₂.heap, slotsUsed := s₂.slotsUsed } : State) L mc ms := by
      refine ⟨?_, q2, q3, q4, q5, q6⟩
      obtain ⟨t, ht, -⟩ := State.frames_cons hr
      show ({ U with heap := s₂.heap, slotsUsed := s₂.slotsUsed } : State) = { U.setFrames U.frames with heap := s₂.heap, slotsUsed := s₂.slotsUsed }
      rw [State.setFrames_self ht]
    subst hg
    refine Or.inl ⟨v, ⟨(({ U with heap := s₂.heap, slotsUsed := s₂.slotsUsed } : State).setVm s₂.vm), Ls ++ L, c0 + mc, s0 + ms⟩,
      ⟨X.admits, X.cas, X.clock, X.frames, X.room, X.hears, X.method, X.code, (X.here.setHeapUsed s₂.heap s₂.slotsUsed).setVm hW'.alike, X.tail, State.WarmedH.trans X.warmed hW', X.limits, X.bytes, X.same.trans (hsame.setVm s.vm)⟩,
      ⟨g, mk, s₂, L, rfl, rfl, hqc, rfl, hL, rfl, rfl⟩, ?_⟩
    show Steps p.tables e below _ ((({ U with heap := s₂.heap, slotsUsed := s₂.slotsUsed } : State).setVm s₂.vm).setTop { g with pc := g.pc + len₂, stack := v.toList ++ g.stack })
    rw [← hs₂]
    exact hsteps
  · obtain ⟨e2, q2, q3, q4, q5, q6⟩ := id hsm
    have e3 : s₂ = ({ (U.calling g mk a).setFrames s₂.frames with heap := s₂.heap, slotsUsed := s₂.slotsUsed } : State).setVm s₂.vm := by
      have : s₂ = ({ s₂ with vm := (U.calling g mk a).vm } : State).setVm s₂.vm := rfl
      rw [e2] at this
      exact this
    have hf₂ : s₂.frames = .throwing q :: .java g :: U.frames.tail := hend
    have hW' : U.WarmedH s₂.vm := hW₂
    have hs₂ : s₂ = ((({ U with heap := s₂.heap, slotsUsed := s₂.slotsUsed } : State).setVm s₂.vm).setTop g).pushFrame (.throwing q) := by
      refine e3.trans ?_
      rw [hf₂, State.calling_eq h.top, State.setFrames_setFrames, State.pushFrame, State.frames_setTop _ hr', State.setTop_of_frames _ hr', State.setFrames_setFrames, hr]
      rfl
    have hsame : U.sameButNew ({ U with heap := s₂.heap, slotsUsed := s₂.slotsUsed } : State) L mc ms := by
      refine ⟨?_, q2, q3, q4, q5, q6⟩
      obtain ⟨t, ht, -⟩ := State.frames_cons hr
      show ({ U with heap := s₂.heap, slotsUsed := s₂.slotsUsed } : State) = { U.setFrames U.frames with heap := s₂.heap, slotsUsed := s₂.slotsUsed }
      rw [State.setFrames_self ht]
    subst hg
    refine Or.inr ⟨q, ⟨(({ U with heap := s₂.heap, slotsUsed := s₂.slotsUsed } : State).setVm s₂.vm), Ls ++ L, c0 + mc, s0 + ms⟩,
      ⟨X.admits, X.cas, X.clock, X.frames, X.room, X.hears, X.method, X.code, (X.here.setHeapUsed s₂.heap s₂.slotsUsed).setVm hW'.alike, X.tail, State.WarmedH.trans X.warmed hW', X.limits, X.bytes, X.same.trans (hsame.setVm s.vm)⟩,
      ⟨g, mk, s₂, L, E, ce, rfl, rfl, hx, hce, hcv, hcl, rfl, hL, rfl, rfl⟩, ?_⟩
    show Steps p.tables e below _ (((({ U with heap := s₂.heap, slotsUsed := s₂.slotsUsed } : State).setVm s₂.vm).setTop g).pushFrame (.throwing q))
    rw [← hs₂]
    exact hsteps
end
variable {p : Program} {l : Launch} {e : Env} {R : Room} {s : State} {m : MethodId} {args : Array Value} {below : List Frame} {meth : Method} {c : Code} {T : State} {H : Heap} {locs : List Loc} {cells slots : Nat}
theorem vx_callVX (X : Stand p l e R s m args below meth c T locs cells slots) (hexec : p.tables.exec = Jvm.exec) {own C : String} {index : Nat} {y : MethodName} {bytes : ByteArray} {maxL : Nat} {ret : Option FieldType} {hh : List (Nat × Nat × Nat × Nat)}
    (hown : s.vm.findClass own = some m.cls) (hlink : (Cond.methodLink own index y).before args s = true) (hinst : (Cond.instanceMethod y).before args s = true) (hsel : (Cond.selects C y y).before args s = true)
    (hcode : (Cond.codeWith y bytes maxL ret hh).before args s = true) (hy : y.cls ≠ "java/lang/invoke/MethodHandle" ∧ y.cls ≠ "java/lang/invoke/VarHandle")
    {W9 : Nat} {Pre : Pt → Array Value → Prop} {Post : Pt → Array Value → Option Value → Pt → Prop} {PostX : Pt → Array Value → Addr → Pt → Prop} (hK : vx_Back l R p e below s args y 3 W9 Pre Post PostX)
    {b : Addr} {cellB : Cell} (hcell : T.heap[b]? = some cellB) (hobj : cellB.vm.isStatics = false) (hcls : s.vm.findClass C = some cellB.cls)
    {g : JFrame} (hg : g.method = m) (hsize : g.locals.size = c.maxLocals) {argsL rest : List Value} (hlen : ∀ sig, parseMethodDescriptor y.desc = some sig → argsL.length = sig.parameters.length)
    (hstack : g.stack = argsL.reverse ++ .ref b :: rest) (hW : 2 * g.monitorRoom + (rest.map fun v => v.category).sum ≤ W9) (hdg : decode c.code g.pc = .ok (.invokevirtual index, 3))
    (hpre : ∀ vm₁, s.WarmedH vm₁ → Pre ⟨T.setVm vm₁, locs, cells, slots⟩ (Value.ref b :: argsL).toArray) :
    (∃ (v : Option Value) (vm₁ : Vm) (B : Pt), s.WarmedH vm₁ ∧ Stand p l e R s m args below meth c B.U B.locs B.cells B.slots ∧ Post ⟨T.setVm vm₁, locs, cells, slots⟩ (Value.ref b :: argsL).toArray v B ∧
      ∀ target, Steps p.tables e below (B.U.setTop { g with pc := g.pc + 3, stack := v.toList ++ rest }) target → Steps p.tables e below (T.setTop g) target) ∨
    (∃ (q : Addr) (vm₁ : Vm) (B : Pt), s.WarmedH vm₁ ∧ Stand p l e R s m args below meth c B.U B.locs B.cells B.slots ∧ PostX ⟨T.setVm vm₁, locs, cells, slots⟩ (Value.ref b :: argsL).toArray q B ∧
      Steps p.tables e below (T.setTop g) ((B.U.setTop { g with stack := rest }).pushFrame (.throwing q))) := by
  obtain ⟨mk, methM, hnamed, hmethM, hstM, habM⟩ := Cond.instanceMethod_spec hinst
  obtain ⟨m8, methM', cM, hn8, hmethM', -, -, -, -, -, -, hsigM⟩ := Cond.codeWith_spec hcode
  cases Option.some.inj (hn8.symm.trans hnamed)
  cases hmethM.symm.trans hmethM'
  obtain ⟨c2, r2, m2, q1, q2, q3, q4, kP, hkP, hkPi⟩ := Cond.selects_spec hsel
  cases hcls.symm.trans q1
  cases (State.methodFound?_of_named hnamed hy).symm.trans q2
  cases hnamed.symm.trans q3
  have hselP : selectMethod e.platform s.vm cellB.cls mk = .method mk := by rw [Launch.admits_selectMethod X.admits]; exact q4
  obtain ⟨vm₁, X₁, hstep₁⟩ := X.invokevirtual hexec hown hlink hnamed hmethM hstM hkP hkPi hy (a := b) (cell := cellB) hcell
    (fun z h => by rw [h] at hobj; cases hobj) hselP hmethM habM hkP hkPi (g := g) hg (argsL := argsL) (rest := rest) (hlen _ hsigM) hstack hdg
  rcases hK m meth c ⟨T.setVm vm₁, locs, cells, slots⟩ { g with stack := rest } (.invokevirtual index) mk (Value.ref b :: argsL).toArray X₁ hg hsize hdg hW (X₁.named hnamed) (hpre vm₁ X₁.warmed) with ⟨v, B, X', hpost, hsteps⟩ | ⟨q, B, X', hpost, hsteps⟩
  · exact Or.inl ⟨v, vm₁, B, X₁.warmed, X', hpost, fun target h => hstep₁ _ fun acts => by rw [doInvoke_state]; exact hsteps.trans h⟩
  · exact Or.inr ⟨q, vm₁, B, X₁.warmed, X', hpost, hstep₁ _ fun acts => by rw [doInvoke_state]; exact hsteps⟩
theorem vx_callSX (X : Stand p l e R s m args below meth c T locs cells slots) (hexec : p.tables.exec = Jvm.exec) {own : String} {index : Nat} {y : MethodName} {bytes : ByteArray} {maxL : Nat} {ret : Option FieldType} {hh : List (Nat × Nat × Nat × Nat)}
    (hown : s.vm.findClass own = some m.cls) (hlink : (Cond.methodLink own index y).before args s = true) (hstat : (Cond.static y).before args s = true) (hinit : (Cond.initialized y.cls).before args s = true)
    (hcode : (Cond.codeWith y bytes maxL ret hh).before args s = true) (hy : y.cls ≠ "java/lang/invoke/MethodHandle" ∧ y.cls ≠ "java/lang/invoke/VarHandle")
    {W9 : Nat} {Pre : Pt → Array Value → Prop} {Post : Pt → Array Value → Option Value → Pt → Prop} {PostX : Pt → Array Value → Addr → Pt → Prop} (hK : vx_Back l R p e below s args y 3 W9 Pre Post PostX)
    {g : JFrame} (hg : g.method = m) (hsize : g.locals.size = c.maxLocals) {argsL rest : List Value} (hlen : ∀ sig, parseMethodDescriptor y.desc = some sig → argsL.length = sig.parameters.length)
    (hstack : g.stack = argsL.reverse ++ rest) (hW : 2 * g.monitorRoom + (rest.map fun v => v.category).sum ≤ W9) (hdg : decode c.code g.pc = .ok (.invokestatic index, 3))
    (hpre : ∀ vm₁, s.WarmedH vm₁ → Pre ⟨T.setVm vm₁, locs, cells, slots⟩ argsL.toArray) :
    (∃ (v : Option Value) (vm₁ : Vm) (B : Pt), s.WarmedH vm₁ ∧ Stand p l e R s m args below meth c B.U B.locs B.cells B.slots ∧ Post ⟨T.setVm vm₁, locs, cells, slots⟩ argsL.toArray v B ∧
      ∀ target, Steps p.tables e below (B.U.setTop { g with pc := g.pc + 3, stack := v.toList ++ rest }) target → Steps p.tables e below (T.setTop g) target) ∨
    (∃ (q : Addr) (vm₁ : Vm) (B : Pt), s.WarmedH vm₁ ∧ Stand p l e R s m args below meth c B.U B.locs B.cells B.slots ∧ PostX ⟨T.setVm vm₁, locs, cells, slots⟩ argsL.toArray q B ∧
      Steps p.tables e below (T.setTop g) ((B.U.setTop { g with stack := rest }).pushFrame (.throwing q))) := by
  obtain ⟨mk, methM, cM, hnamed, hmethM, -, -, -, -, -, -, hsigM⟩ := Cond.codeWith_spec hcode
  have hstatic : methM.isStatic = true := Cond.static_spec hnamed hmethM hstat
  obtain ⟨kP, hkP, -⟩ := className_of_methodNamed hnamed
  have hinitP : kP.init = .initialized := Cond.initialized_spec (findClass_of_methodNamed hnamed) hkP hinit
  obtain ⟨vm₁, X₁, hstep₁⟩ := X.invokestatic hexec hown hlink hnamed hmethM hstatic hkP hinitP hy (g := g) hg (argsL := argsL) (rest := rest) (hlen _ hsigM) hstack hdg
  rcases hK m meth c ⟨T.setVm vm₁, locs, cells, slots⟩ { g with stack := rest } (.invokestatic index) mk argsL.toArray X₁ hg hsize hdg hW (X₁.named hnamed) (hpre vm₁ X₁.warmed) with ⟨v, B, X', hpost, hsteps⟩ | ⟨q, B, X', hpost, hsteps⟩
  · exact Or.inl ⟨v, vm₁, B, X₁.warmed, X', hpost, fun target h => hstep₁ _ fun acts => by rw [doInvoke_state]; exact hsteps.trans h⟩
  · exact Or.inr ⟨q, vm₁, B, X₁.warmed, X', hpost, hstep₁ _ fun acts => by rw [doInvoke_state]; exact hsteps⟩
theorem vx_callVW (X : Stand p l e R s m args below meth c T locs cells slots) (hexec : p.tables.exec = Jvm.exec) {own C : String} {index : Nat} {y : MethodName} {bytes : ByteArray} {maxL : Nat} {ret : Option FieldType} {hh : List (Nat × Nat × Nat × Nat)}
    (hown : s.vm.findClass own = some m.cls) (hlink : (Cond.methodLink own index y).before args s = true) (hinst : (Cond.instanceMethod y).before args s = true) (hsel : (Cond.selects C y y).before args s = true)
    (hcode : (Cond.codeWith y bytes maxL ret hh).before args s = true) (hy : y.cls ≠ "java/lang/invoke/MethodHandle" ∧ y.cls ≠ "java/lang/invoke/VarHandle")
    {W9 : Nat} {Pre : Pt → Array Value → Prop} {Post : Pt → Array Value → Option Value → Pt → Prop} (hK : Back l R p e below s args y 3 W9 Pre Post)
    {b : Addr} {cellB : Cell} (hcell : T.heap[b]? = some cellB) (hobj : cellB.vm.isStatics = false) (hcls : s.vm.findClass C = some cellB.cls)
    {g : JFrame} (hg : g.method = m) (hsize : g.locals.size = c.maxLocals) {argsL rest : List Value} (hlen : ∀ sig, parseMethodDescriptor y.desc = some sig → argsL.length = sig.parameters.length)
    (hstack : g.stack = argsL.reverse ++ .ref b :: rest) (hW : 2 * g.monitorRoom + (rest.map fun v => v.category).sum ≤ W9) (hdg : decode c.code g.pc = .ok (.invokevirtual index, 3))
    (hpre : ∀ vm₁, s.WarmedH vm₁ → Pre ⟨T.setVm vm₁, locs, cells, slots⟩ (Value.ref b :: argsL).toArray) :
    ∃ (v : Option Value) (vm₁ : Vm) (B : Pt), s.WarmedH vm₁ ∧ Stand p l e R s m args below meth c B.U B.locs B.cells B.slots ∧ Post ⟨T.setVm vm₁, locs, cells, slots⟩ (Value.ref b :: argsL).toArray v B ∧
      ∀ target, Steps p.tables e below (B.U.setTop { g with pc := g.pc + 3, stack := v.toList ++ rest }) target → Steps p.tables e below (T.setTop g) target := by
  obtain ⟨mk, methM, hnamed, hmethM, hstM, habM⟩ := Cond.instanceMethod_spec hinst
  obtain ⟨m8, methM', cM, hn8, hmethM', -, -, -, -, -, -, hsigM⟩ := Cond.codeWith_spec hcode
  cases Option.some.inj (hn8.symm.trans hnamed)
  cases hmethM.symm.trans hmethM'
  obtain ⟨c2, r2, m2, q1, q2, q3, q4, kP, hkP, hkPi⟩ := Cond.selects_spec hsel
  cases hcls.symm.trans q1
  cases (State.methodFound?_of_named hnamed hy).symm.trans q2
  cases hnamed.symm.trans q3
  have hselP : selectMethod e.platform s.vm cellB.cls mk = .method mk := by rw [Launch.admits_selectMethod X.admits]; exact q4
  obtain ⟨vm₁, X₁, hstep₁⟩ := X.invokevirtual hexec hown hlink hnamed hmethM hstM hkP hkPi hy (a := b) (cell := cellB) hcell
    (fun z h => by rw [h] at hobj; cases hobj) hselP hmethM habM hkP hkPi (g := g) hg (argsL := argsL) (rest := rest) (hlen _ hsigM) hstack hdg
  obtain ⟨v, B, X', hpost, hsteps⟩ := hK m meth c ⟨T.setVm vm₁, locs, cells, slots⟩ { g with stack := rest } (.invokevirtual index) mk (Value.ref b :: argsL).toArray X₁ hg hsize hdg hW (X₁.named hnamed) (hpre vm₁ X₁.warmed)
  exact ⟨v, vm₁, B, X₁.warmed, X', hpost, fun target h => hstep₁ _ fun acts => by rw [doInvoke_state]; exact hsteps.trans h⟩
abbrev vx_CVW (R : Room) (s : State) (args : Array Value) (own C : String) (index : Nat) (y : MethodName) (bytes : ByteArray) (maxL : Nat) (ret : Option FieldType) (hh : List (Nat × Nat × Nat × Nat)) (ws : List Cond) (rm : Room) (mc ms n : Nat) : Prop :=
  (rm.cells = mc ∧ rm.slots = ms ∧ rm.frames + 1 ≤ R.frames ∧ 8 + (maxL + 11) + rm.locals ≤ R.locals ∧ (∀ w ∈ ws, ∀ (a' : Array Value) (U : State), s.WarmedH U.vm → w.before a' U = true) ∧ Cond.codeWith y bytes maxL ret hh ∈ ws) ∧
  (Cond.codeWith y bytes maxL ret hh).before args s = true ∧ (Cond.initialized y.cls).before args s = true ∧ (y.cls ≠ "java/lang/invoke/MethodHandle" ∧ y.cls ≠ "java/lang/invoke/VarHandle") ∧
  (∀ sig, parseMethodDescriptor y.desc = some sig → n = sig.parameters.length) ∧ (Cond.methodLink own index y).before args s = true ∧ (Cond.instanceMethod y).before args s = true ∧ (Cond.selects C y y).before args s = true
theorem vx_cwVW {own C : String} {index maxL mc ms : Nat} {y : MethodName} {bytes : ByteArray} {ret : Option FieldType} {hh : List (Nat × Nat × Nat × Nat)} {Ts ws ws' : List Cond} {rm : Room} (n : Nat) (ht : ∀ w ∈ Ts, w.before args s = true) (hT : GoodIn Ts (wsV own index C y ws)) (hw : ws = Cond.codeWith y bytes maxL ret hh :: ws') (hrc : rm.cells = mc) (hrs : rm.slots = ms)
    (hd : y.cls = C ∧ y.cls ≠ "java/lang/invoke/MethodHandle" ∧ y.cls ≠ "java/lang/invoke/VarHandle" ∧ (parseMethodDescriptor y.desc).map (fun d => d.parameters.length) = some n) (hR : rm.frames + 1 ≤ R.frames ∧ 8 + (maxL + 11) + rm.locals ≤ R.locals) :
    vx_CVW R s args own C index y bytes maxL ret hh ws rm mc ms n := by
  obtain ⟨hC, hd⟩ := hd
  subst hC
  have ok : ∀ w ∈ wsV own index y.cls y ws, w.before args s = true := fun w h => ht w (hT w h).1
  have hG : GoodIn Ts ws := fun w h => hT w (by unfold wsV; exact List.mem_append_right _ h)
  have hc : Cond.codeWith y bytes maxL ret hh ∈ ws := by rw [hw]; exact List.mem_cons_self
  refine ⟨⟨hrc, hrs, hR.1, hR.2, pay_in ht hG, hc⟩, ht _ (hG _ hc).1, ok _ (by simp [wsV]), ⟨hd.1, hd.2.1⟩, fun sig h => ?_, ok _ (by simp [wsV]), ok _ (by simp [wsV]), ok _ (by simp [wsV])⟩
  have h2 := hd.2.2
  rw [h] at h2
  exact (Option.some.inj h2).symm
theorem vx_runVW {y : MethodName} {bytes cc : ByteArray} {maxL nL mc ms n index : Nat} {ret : Option FieldType} {hh : List (Nat × Nat × Nat × Nat)} {ws : List Cond} {rm : Room} {Pc : Array Value → State → Prop} {Qc : Array Value → State → Outcome → State → Prop} {free : Addr → Prop} {Ts : List Cond} {own C : String} {b : Addr} {As rest : List Value} {g : JFrame}
    (S : CallFix p m c cc nL s args Ts own) (hM : Met l y ws rm Pc Qc mc ms free) (cw : vx_CVW R s args own C index y bytes maxL ret hh ws rm mc ms n) (hp : PreV s H C b Pc As)
    (hg : g.method = m) (hn : As.length = n) (hsize : g.locals.size = nL) (hstack : g.stack = As.reverse ++ .ref b :: rest) (hW : 2 * g.monitorRoom + (rest.map fun v => v.category).sum ≤ 8) (hdg : decode cc g.pc = .ok (.invokevirtual index, 3)) (hf : cells + mc ≤ R.cells ∧ slots + ms ≤ R.slots) :
    va_Run p l e R s m args below meth c H locs cells slots mc ms g rest (Qc (Value.ref b :: As).toArray) free := by
  obtain ⟨⟨hrc, hrs, hfr, hlo, hws, hcw⟩, hcode, hini, hy, hlen, hl, hin, hse⟩ := cw
  have hK : Back l R p e below s args y 3 8 (PreOf R mc ms Pc) (PostOf Qc mc ms free) := va_backW (hh := hh) (bytes := bytes) (maxL := maxL) (ret := ret) hM hp.1 hrc hrs hfr hlo hws hcw (fun a' U hW => word_at hW (Or.inl (by first | rfl | simp [Cond.onTables, Cond.keeps, Cond.steady])) hini)
  obtain ⟨hx, hb, hml, ho, -⟩ := S
  obtain ⟨-, ⟨cellB, hcB, hoB, hclB⟩, hPc⟩ := hp
  intro T hT X
  obtain ⟨v, vm₁, ⟨U', l2, c2, s2⟩, hW₁, X', ⟨g', mk, t, L, e1, e2, hq, h1, hL, h2, h3⟩, st⟩ := vx_callVW X hx (C := C) (hh := hh) (bytes := bytes) (maxL := maxL) (ret := ret) ho hl hin hse hcode hy hK (by rw [hT]; exact hcB) hoB hclB hg (hsize.trans hml.symm) (argsL := As) (rest := rest) (fun sig h => hn.trans (hlen sig h)) hstack hW (by rw [hb]; exact hdg)
    (fun vm₁ hW₁ => ⟨hf.1, hf.2, hPc (T.setVm vm₁) hT hW₁⟩)
  dsimp only [Pt.U, Pt.locs, Pt.cells, Pt.slots] at X' e1 e2 h1 h2 h3 st
  subst h1; subst h2; subst h3
  exact ⟨v, (T.setVm vm₁).calling g' mk (Value.ref b :: As).toArray, t, U', L, hT, X', hL, e1, e2, hq, st⟩
section
variable {y : MethodName} {bytes cc : ByteArray} {maxL nL mc ms n index : Nat} {ret : Option FieldType} {ws : List Cond} {rm : Room} {Pc : Array Value → State → Prop} {Qc : Array Value → State → Outcome → State → Prop} {XC : String → State → State → Prop} {free : Addr → Prop} {Ts : List Cond} {own C : String} {b : Addr} {As rest : List Value} {g : JFrame}
theorem vx_runVX {hh : List (Nat × Nat × Nat × Nat)} (S : CallFix p m c cc nL s args Ts own) (hM : vx_Met l y ws rm Pc Qc XC mc ms free) (cw : vx_CVW R s args own C index y bytes maxL ret hh ws rm mc ms n) (hp : PreV s H C b Pc As)
    (hg : g.method = m) (hn : As.length = n) (hsize : g.locals.size = nL) (hstack : g.stack = As.reverse ++ .ref b :: rest) (hW : 2 * g.monitorRoom + (rest.map fun v => v.category).sum ≤ 8) (hdg : decode cc g.pc = .ok (.invokevirtual index, 3)) (hf : cells + mc ≤ R.cells ∧ slots + ms ≤ R.slots) :
    vx_Run p l e R s m args below meth c H locs cells slots mc ms g rest (Qc (Value.ref b :: As).toArray) XC free := by
  obtain ⟨⟨hrc, hrs, hfr, hlo, hws, hcw⟩, hcode, hini, hy, hlen, hl, hin, hse⟩ := cw
  have hK : vx_Back l R p e below s args y 3 8 (PreOf R mc ms Pc) (PostOf Qc mc ms free) (vx_Post XC mc ms free) := vx_backW (hh := hh) (bytes := bytes) (maxL := maxL) (ret := ret) hM hp.1 hrc hrs hfr hlo hws hcw (fun a' U hW => word_at hW (Or.inl (by first | rfl | simp [Cond.onTables, Cond.keeps, Cond.steady])) hini)
  obtain ⟨hx, hb, hml, ho, -⟩ := S
  obtain ⟨-, ⟨cellB, hcB, hoB, hclB⟩, hPc⟩ := hp
  intro T hT X
  rcases vx_callVX X hx (C := C) (hh := hh) (bytes := bytes) (maxL := maxL) (ret := ret) ho hl hin hse hcode hy hK (by rw [hT]; exact hcB) hoB hclB hg (hsize.trans hml.symm) (argsL := As) (rest := rest) (fun sig h => hn.trans (hlen sig h)) hstack hW (by rw [hb]; exact hdg)
    (fun vm₁ hW₁ => ⟨hf.1, hf.2, hPc (T.setVm vm₁) hT hW₁⟩) with ⟨v, vm₁, ⟨U', l2, c2, s2⟩, hW₁, X', ⟨g', mk, t, L, e1, e2, hq, h1, hL, h2, h3⟩, st⟩ | ⟨q, vm₁, ⟨U', l2, c2, s2⟩, hW₁, X', ⟨g', mk, t, L, E, ce, e1, e2, hq, hce, hcv, hcl, h1, hL, h2, h3⟩, st⟩
  · dsimp only [Pt.U, Pt.locs, Pt.cells, Pt.slots] at X' e1 e2 h1 h2 h3 st
    subst h1; subst h2; subst h3
    exact Or.inl ⟨v, (T.setVm vm₁).calling g' mk (Value.ref b :: As).toArray, t, U', L, hT, X', hL, e1, e2, hq, st⟩
  · dsimp only [Pt.U, Pt.locs, Pt.cells, Pt.slots] at X' e1 e2 h1 h2 h3 st hcl
    subst h1; subst h2; subst h3
    exact Or.inr ⟨q, (T.setVm vm₁).calling g' mk (Value.ref b :: As).toArray, t, U', L, E, ce, hT, X', hL, e1, e2, hq, hce, hcv, vx_cls hW₁ hcl, st⟩
theorem vx_runSX {hh : List (Nat × Nat × Nat × Nat)} (S : CallFix p m c cc nL s args Ts own) (hM : vx_Met l y ws rm Pc Qc XC mc ms free) (cw : vx_CSW R s args own index y bytes maxL ret hh ws rm mc ms n) (hp : PreS s H Pc As)
    (hg : g.method = m) (hn : As.length = n) (hsize : g.locals.size = nL) (hstack : g.stack = As.reverse ++ rest) (hW : 2 * g.monitorRoom + (rest.map fun v => v.category).sum ≤ 8) (hdg : decode cc g.pc = .ok (.invokestatic index, 3)) (hf : cells + mc ≤ R.cells ∧ slots + ms ≤ R.slots) :
    vx_Run p l e R s m args below meth c H locs cells slots mc ms g rest (Qc As.toArray) XC free := by
  obtain ⟨⟨hrc, hrs, hfr, hlo, hws, hcw⟩, hcode, hini, hy, hlen, hl, hstt⟩ := cw
  have hK : vx_Back l R p e below s args y 3 8 (PreOf R mc ms Pc) (PostOf Qc mc ms free) (vx_Post XC mc ms free) := vx_backW (hh := hh) (bytes := bytes) (maxL := maxL) (ret := ret) hM hp.1 hrc hrs hfr hlo hws hcw (fun a' U hW => word_at hW (Or.inl (by first | rfl | simp [Cond.onTables, Cond.keeps, Cond.steady])) hini)
  obtain ⟨hx, hb, hml, ho, -⟩ := S
  intro T hT X
  rcases vx_callSX X hx (hh := hh) (bytes := bytes) (maxL := maxL) (ret := ret) ho hl hstt hini hcode hy hK hg (hsize.trans hml.symm) (argsL := As) (rest := rest) (fun sig h => hn.trans (hlen sig h)) hstack hW (by rw [hb]; exact hdg)
    (fun vm₁ hW₁ => ⟨hf.1, hf.2, hp.2 (T.setVm vm₁) hT hW₁⟩) with ⟨v, vm₁, ⟨U', l2, c2, s2⟩, hW₁, X', ⟨g', mk, t, L, e1, e2, hq, h1, hL, h2, h3⟩, st⟩ | ⟨q, vm₁, ⟨U', l2, c2, s2⟩, hW₁, X', ⟨g', mk, t, L, E, ce, e1, e2, hq, hce, hcv, hcl, h1, hL, h2, h3⟩, st⟩
  · dsimp only [Pt.U, Pt.locs, Pt.cells, Pt.slots] at X' e1 e2 h1 h2 h3 st
    subst h1; subst h2; subst h3
    exact Or.inl ⟨v, (T.setVm vm₁).calling g' mk As.toArray, t, U', L, hT, X', hL, e1, e2, hq, st⟩
  · dsimp only [Pt.U, Pt.locs, Pt.cells, Pt.slots] at X' e1 e2 h1 h2 h3 st hcl
    subst h1; subst h2; subst h3
    exact Or.inr ⟨q, (T.setVm vm₁).calling g' mk As.toArray, t, U', L, E, ce, hT, X', hL, e1, e2, hq, hce, hcv, vx_cls hW₁ hcl, st⟩
end
end VXH
theorem vx_ofWH {l : Launch} {y : MethodName} {ws ws' : List Cond} {rm : Room} {Pc : Array Value → State → Prop} {Qc : Array Value → State → Outcome → State → Prop} {XC : String → State → State → Prop} {mc ms : Nat} {free : Addr → Prop} {cc : ByteArray} {maxL : Nat} {ret : Option FieldType} {hh : List (Nat × Nat × Nat × Nat)}
    (hy : plainName y.cls = true) (hw : ws = Cond.codeWith y cc maxL ret hh :: ws')
    (body : ∀ p e s m args below meth c s₁, BodyLoose p l y (headSpec ws rm) cc maxL ret e s m args below meth c s₁ → c.maxLocals = maxL → Pc args s →
      W p l e (headSpec ws rm).room s m args below meth c s.heap [] 0 0 (vx_MQ below Qc XC args s mc ms free) (entryFrame m args maxL)) : vx_Met l y ws rm Pc Qc XC mc ms free := by
  refine MetFree.of_bodyS (code := cc) (maxLocals := maxL) (ret := ret) hy ?_ ?_
  · intro args s m h hn
    obtain ⟨m9, meth, c, hn9, h1, h2, h3, h4, -, h5, h6, -⟩ := Cond.codeWith_spec (atoms_spec (ws := ws) h _ (by rw [hw]; exact List.mem_cons_self))
    cases hn.symm.trans hn9
    exact ⟨meth, c, h1, h2, h3, h4, h5, h6⟩
  · intro p e s m args below meth c s₁ B hml hP _
    have hh0 : s₁.heap = s.heap := by rw [B.state]; rfl
    obtain ⟨t, a1, o, b1, b2, b3⟩ := body p e s m args below meth c s₁ B hml hP s₁ hh0 (Stand.of_body B)
    exact ⟨t, o, a1, b1, b2, b3⟩
/-! ===== END ===== -/
end
section
/-! ===== BEGIN printed: names, fields, word lists, decode rows ===== -/
def RX0 : String := "TableChanger"
def TX0 : u_T := fun k => match k with
  | 0 => ("TableChanger", "oldA", "[I", true)
  | 1 => ("TableChanger", "oldB", "[I", true)
  | 2 => ("TableChanger", "shadowColumns", "[[I", true)
  | 3 => ("TableChanger", "refusedKeys", "[Z", true)
  | 4 => ("TableChanger", "notedKeys", "[I", true)
  | 5 => ("TableChanger", "noteCount", "I", false)
  | 6 => ("TableChanger", "currentPhase", "I", false)
  | 7 => ("TableChanger", "currentMark", "I", false)
  | 8 => ("TableChanger", "currentAlteration", "I", false)
  | 9 => ("TableChanger", "currentParameter", "I", false)
  | 10 => ("TableChanger", "chunkSize", "I", false)
  | _ => ("TableChanger", "greatestLag", "I", false)
def tyX0 : Nat → FieldType := fun k => match k with
  | 0 => .array .int
  | 1 => .array .int
  | 2 => .array (.array .int)
  | 3 => .array .boolean
  | 4 => .array .int
  | 5 => .int
  | 6 => .int
  | 7 => .int
  | 8 => .int
  | 9 => .int
  | 10 => .int
  | _ => .int
abbrev wsX00 : List Cond := u_ws RX0 TX0 12
theorem nmX0 : ∀ a, a < 12 → ∀ b, b < 12 → a ≠ b → (TX0 a).2.1 ≠ (TX0 b).2.1 := by decide +kernel
theorem tyX0_ok : ∀ k, k < 12 → parseFieldDescriptor (TX0 k).2.2.1 = some (tyX0 k) := by decide +kernel
abbrev cX0_init : ByteArray := prog_1_method_1_code
def yX0_init : MethodName := ⟨RX0, "<init>", "()V"⟩
abbrev cX0_insert : ByteArray := prog_1_method_2_code
def yX0_insert : MethodName := ⟨RX0, "insert", "(III)V"⟩
abbrev cX0_update : ByteArray := prog_1_method_3_code
def yX0_update : MethodName := ⟨RX0, "update", "(III)V"⟩
abbrev cX0_delete : ByteArray := prog_1_method_4_code
def yX0_delete : MethodName := ⟨RX0, "delete", "(I)I"⟩
abbrev cX0_rekey : ByteArray := prog_1_method_5_code
def yX0_rekey : MethodName := ⟨RX0, "rekey", "(II)V"⟩
abbrev cX0_start : ByteArray := prog_1_method_6_code
def yX0_start : MethodName := ⟨RX0, "start", "(II)V"⟩
abbrev cX0_setPace : ByteArray := prog_1_method_7_code
def yX0_setPace : MethodName := ⟨RX0, "setPace", "(II)V"⟩
abbrev cX0_tick : ByteArray := prog_1_method_8_code
def yX0_tick : MethodName := ⟨RX0, "tick", "(I)I"⟩
abbrev cX0_cutOver : ByteArray := prog_1_method_9_code
def yX0_cutOver : MethodName := ⟨RX0, "cutOver", "(I)I"⟩
abbrev cX0_undo : ByteArray := prog_1_method_10_code
def yX0_undo : MethodName := ⟨RX0, "undo", "()V"⟩
abbrev cX0_finish : ByteArray := prog_1_method_11_code
def yX0_finish : MethodName := ⟨RX0, "finish", "()I"⟩
abbrev cX0_giveUp : ByteArray := prog_1_method_12_code
def yX0_giveUp : MethodName := ⟨RX0, "giveUp", "()I"⟩
abbrev cX0_row : ByteArray := prog_1_method_13_code
def yX0_row : MethodName := ⟨RX0, "row", "(I)I"⟩
abbrev cX0_rows : ByteArray := prog_1_method_14_code
def yX0_rows : MethodName := ⟨RX0, "rows", "()I"⟩
abbrev cX0_phase : ByteArray := prog_1_method_15_code
def yX0_phase : MethodName := ⟨RX0, "phase", "()I"⟩
abbrev cX0_mark : ByteArray := prog_1_method_16_code
def yX0_mark : MethodName := ⟨RX0, "mark", "()I"⟩
abbrev cX0_notes : ByteArray := prog_1_method_17_code
def yX0_notes : MethodName := ⟨RX0, "notes", "()I"⟩
abbrev cX0_shadow : ByteArray := prog_1_method_18_code
def yX0_shadow : MethodName := ⟨RX0, "shadow", "(II)I"⟩
abbrev cX0_shadowRows : ByteArray := prog_1_method_19_code
def yX0_shadowRows : MethodName := ⟨RX0, "shadowRows", "()I"⟩
abbrev cX0_isRefused : ByteArray := prog_1_method_20_code
def yX0_isRefused : MethodName := ⟨RX0, "isRefused", "(I)Z"⟩
abbrev cX0_behind : ByteArray := prog_1_method_21_code
def yX0_behind : MethodName := ⟨RX0, "behind", "()I"⟩
abbrev cX0_sum : ByteArray := prog_1_method_22_code
def yX0_sum : MethodName := ⟨RX0, "sum", "(I)I"⟩
abbrev cX0_sumAtOnce : ByteArray := prog_1_method_23_code
def yX0_sumAtOnce : MethodName := ⟨RX0, "sumAtOnce", "(I)I"⟩
abbrev cX0_isWithin : ByteArray := prog_1_method_24_code
def yX0_isWithin : MethodName := ⟨RX0, "isWithin", "(III)Z"⟩
abbrev cX0_isKey : ByteArray := prog_1_method_25_code
def yX0_isKey : MethodName := ⟨RX0, "isKey", "(I)Z"⟩
abbrev cX0_isColumn : ByteArray := prog_1_method_26_code
def yX0_isColumn : MethodName := ⟨RX0, "isColumn", "(I)Z"⟩
abbrev cX0_canBeWritten : ByteArray := prog_1_method_27_code
def yX0_canBeWritten : MethodName := ⟨RX0, "canBeWritten", "(II)Z"⟩
abbrev cX0_isInOld : ByteArray := prog_1_method_28_code
def yX0_isInOld : MethodName := ⟨RX0, "isInOld", "(I)Z"⟩
abbrev cX0_isInShadow : ByteArray := prog_1_method_29_code
def yX0_isInShadow : MethodName := ⟨RX0, "isInShadow", "(I)Z"⟩
abbrev cX0_isSeen : ByteArray := prog_1_method_30_code
def yX0_isSeen : MethodName := ⟨RX0, "isSeen", "(I)Z"⟩
abbrev cX0_rowAsNumber : ByteArray := prog_1_method_31_code
def yX0_rowAsNumber : MethodName := ⟨RX0, "rowAsNumber", "(I)I"⟩
abbrev cX0_putRow : ByteArray := prog_1_method_32_code
def yX0_putRow : MethodName := ⟨RX0, "putRow", "(III)V"⟩
abbrev cX0_removeRow : ByteArray := prog_1_method_33_code
def yX0_removeRow : MethodName := ⟨RX0, "removeRow", "(I)V"⟩
abbrev cX0_removeRowsWithoutShadow : ByteArray := prog_1_method_34_code
def yX0_removeRowsWithoutShadow : MethodName := ⟨RX0, "removeRowsWithoutShadow", "()I"⟩
abbrev cX0_fits : ByteArray := prog_1_method_35_code
def yX0_fits : MethodName := ⟨RX0, "fits", "(I)Z"⟩
abbrev cX0_alteredColumn : ByteArray := prog_1_method_36_code
def yX0_alteredColumn : MethodName := ⟨RX0, "alteredColumn", "(III)I"⟩
abbrev cX0_alteredMiddle : ByteArray := prog_1_method_37_code
def yX0_alteredMiddle : MethodName := ⟨RX0, "alteredMiddle", "(II)I"⟩
abbrev cX0_alteredLast : ByteArray := prog_1_method_38_code
def yX0_alteredLast : MethodName := ⟨RX0, "alteredLast", "(I)I"⟩
abbrev cX0_digits : ByteArray := prog_1_method_39_code
def yX0_digits : MethodName := ⟨RX0, "digits", "(I)I"⟩
abbrev cX0_broughtColumn : ByteArray := prog_1_method_40_code
def yX0_broughtColumn : MethodName := ⟨RX0, "broughtColumn", "(II)I"⟩
abbrev cX0_bring : ByteArray := prog_1_method_41_code
def yX0_bring : MethodName := ⟨RX0, "bring", "(I)V"⟩
abbrev cX0_isBehind : ByteArray := prog_1_method_42_code
def yX0_isBehind : MethodName := ⟨RX0, "isBehind", "(I)Z"⟩
abbrev cX0_followWrite : ByteArray := prog_1_method_43_code
def yX0_followWrite : MethodName := ⟨RX0, "followWrite", "(I)V"⟩
abbrev cX0_noteKey : ByteArray := prog_1_method_44_code
def yX0_noteKey : MethodName := ⟨RX0, "noteKey", "(I)V"⟩
abbrev cX0_copyChunk : ByteArray := prog_1_method_45_code
def yX0_copyChunk : MethodName := ⟨RX0, "copyChunk", "()I"⟩
abbrev cX0_playNotes : ByteArray := prog_1_method_46_code
def yX0_playNotes : MethodName := ⟨RX0, "playNotes", "(I)I"⟩
abbrev cX0_endChange : ByteArray := prog_1_method_47_code
def yX0_endChange : MethodName := ⟨RX0, "endChange", "()V"⟩
def RX1 : String := "TableChangerModel"
def TX1 : u_T := fun k => match k with
  | 0 => ("TableChangerModel", "old", "[I", true)
  | 1 => ("TableChangerModel", "shadow", "[I", true)
  | 2 => ("TableChangerModel", "isShadowed", "[Z", true)
  | 3 => ("TableChangerModel", "isOut", "[Z", true)
  | 4 => ("TableChangerModel", "phase", "I", false)
  | 5 => ("TableChangerModel", "alteration", "I", false)
  | 6 => ("TableChangerModel", "parameter", "I", false)
  | 7 => ("TableChangerModel", "chunk", "I", false)
  | 8 => ("TableChangerModel", "greatest", "I", false)
  | 9 => ("TableChangerModel", "mark", "I", false)
  | 10 => ("TableChangerModel", "notes", "I", false)
  | 11 => ("TableChangerModel", "noted", "[I", true)
  | _ => ("TableChangerModel", "thrown", "I", false)
def tyX1 : Nat → FieldType := fun k => match k with
  | 0 => .array .int
  | 1 => .array .int
  | 2 => .array .boolean
  | 3 => .array .boolean
  | 4 => .int
  | 5 => .int
  | 6 => .int
  | 7 => .int
  | 8 => .int
  | 9 => .int
  | 10 => .int
  | 11 => .array .int
  | _ => .int
abbrev wsX10 : List Cond := u_ws RX1 TX1 13
theorem nmX1 : ∀ a, a < 13 → ∀ b, b < 13 → a ≠ b → (TX1 a).2.1 ≠ (TX1 b).2.1 := by decide +kernel
theorem tyX1_ok : ∀ k, k < 13 → parseFieldDescriptor (TX1 k).2.2.1 = some (tyX1 k) := by decide +kernel
abbrev cX1_init : ByteArray := prog_3_method_1_code
def yX1_init : MethodName := ⟨RX1, "<init>", "()V"⟩
abbrev cX1_thrown : ByteArray := prog_3_method_2_code
def yX1_thrown : MethodName := ⟨RX1, "thrown", "()I"⟩
abbrev cX1_can : ByteArray := prog_3_method_3_code
def yX1_can : MethodName := ⟨RX1, "can", "(I)Z"⟩
abbrev cX1_isIn : ByteArray := prog_3_method_4_code
def yX1_isIn : MethodName := ⟨RX1, "isIn", "(III)Z"⟩
abbrev cX1_isKey : ByteArray := prog_3_method_5_code
def yX1_isKey : MethodName := ⟨RX1, "isKey", "(I)Z"⟩
abbrev cX1_suits : ByteArray := prog_3_method_6_code
def yX1_suits : MethodName := ⟨RX1, "suits", "(I)Z"⟩
abbrev cX1_digits : ByteArray := prog_3_method_7_code
def yX1_digits : MethodName := ⟨RX1, "digits", "(I)I"⟩
abbrev cX1_altered : ByteArray := prog_3_method_8_code
def yX1_altered : MethodName := ⟨RX1, "altered", "(II)I"⟩
abbrev cX1_brings : ByteArray := prog_3_method_9_code
def yX1_brings : MethodName := ⟨RX1, "brings", "(I)V"⟩
abbrev cX1_isSeen : ByteArray := prog_3_method_10_code
def yX1_isSeen : MethodName := ⟨RX1, "isSeen", "(I)Z"⟩
abbrev cX1_wrote : ByteArray := prog_3_method_11_code
def yX1_wrote : MethodName := ⟨RX1, "wrote", "(I)V"⟩
abbrev cX1_faultOf : ByteArray := prog_3_method_12_code
def yX1_faultOf : MethodName := ⟨RX1, "faultOf", "(III)I"⟩
abbrev cX1_writes : ByteArray := prog_3_method_13_code
def yX1_writes : MethodName := ⟨RX1, "writes", "(II)V"⟩
abbrev cX1_insert : ByteArray := prog_3_method_14_code
def yX1_insert : MethodName := ⟨RX1, "insert", "(III)V"⟩
abbrev cX1_update : ByteArray := prog_3_method_15_code
def yX1_update : MethodName := ⟨RX1, "update", "(III)V"⟩
abbrev cX1_delete : ByteArray := prog_3_method_16_code
def yX1_delete : MethodName := ⟨RX1, "delete", "(I)I"⟩
abbrev cX1_rekey : ByteArray := prog_3_method_17_code
def yX1_rekey : MethodName := ⟨RX1, "rekey", "(II)V"⟩
abbrev cX1_clears : ByteArray := prog_3_method_18_code
def yX1_clears : MethodName := ⟨RX1, "clears", "()V"⟩
abbrev cX1_start : ByteArray := prog_3_method_19_code
def yX1_start : MethodName := ⟨RX1, "start", "(II)V"⟩
abbrev cX1_setPace : ByteArray := prog_3_method_20_code
def yX1_setPace : MethodName := ⟨RX1, "setPace", "(II)V"⟩
abbrev cX1_plays : ByteArray := prog_3_method_21_code
def yX1_plays : MethodName := ⟨RX1, "plays", "(I)V"⟩
abbrev cX1_tick : ByteArray := prog_3_method_22_code
def yX1_tick : MethodName := ⟨RX1, "tick", "(I)I"⟩
abbrev cX1_cutOver : ByteArray := prog_3_method_23_code
def yX1_cutOver : MethodName := ⟨RX1, "cutOver", "(I)I"⟩
abbrev cX1_undo : ByteArray := prog_3_method_24_code
def yX1_undo : MethodName := ⟨RX1, "undo", "()V"⟩
abbrev cX1_shadowed : ByteArray := prog_3_method_25_code
def yX1_shadowed : MethodName := ⟨RX1, "shadowed", "()I"⟩
abbrev cX1_finish : ByteArray := prog_3_method_26_code
def yX1_finish : MethodName := ⟨RX1, "finish", "()I"⟩
abbrev cX1_giveUp : ByteArray := prog_3_method_27_code
def yX1_giveUp : MethodName := ⟨RX1, "giveUp", "()I"⟩
abbrev cX1_row : ByteArray := prog_3_method_28_code
def yX1_row : MethodName := ⟨RX1, "row", "(I)I"⟩
abbrev cX1_rows : ByteArray := prog_3_method_29_code
def yX1_rows : MethodName := ⟨RX1, "rows", "()I"⟩
abbrev cX1_phase : ByteArray := prog_3_method_30_code
def yX1_phase : MethodName := ⟨RX1, "phase", "()I"⟩
abbrev cX1_mark : ByteArray := prog_3_method_31_code
def yX1_mark : MethodName := ⟨RX1, "mark", "()I"⟩
abbrev cX1_notes : ByteArray := prog_3_method_32_code
def yX1_notes : MethodName := ⟨RX1, "notes", "()I"⟩
abbrev cX1_isColumn : ByteArray := prog_3_method_33_code
def yX1_isColumn : MethodName := ⟨RX1, "isColumn", "(I)Z"⟩
abbrev cX1_shadow : ByteArray := prog_3_method_34_code
def yX1_shadow : MethodName := ⟨RX1, "shadow", "(II)I"⟩
abbrev cX1_shadowRows : ByteArray := prog_3_method_35_code
def yX1_shadowRows : MethodName := ⟨RX1, "shadowRows", "()I"⟩
abbrev cX1_isRefused : ByteArray := prog_3_method_36_code
def yX1_isRefused : MethodName := ⟨RX1, "isRefused", "(I)Z"⟩
abbrev cX1_isEven : ByteArray := prog_3_method_37_code
def yX1_isEven : MethodName := ⟨RX1, "isEven", "(I)Z"⟩
abbrev cX1_behind : ByteArray := prog_3_method_38_code
def yX1_behind : MethodName := ⟨RX1, "behind", "()I"⟩
abbrev cX1_sum : ByteArray := prog_3_method_39_code
def yX1_sum : MethodName := ⟨RX1, "sum", "(I)I"⟩
abbrev cX1_sumAtOnce : ByteArray := prog_3_method_40_code
def yX1_sumAtOnce : MethodName := ⟨RX1, "sumAtOnce", "(I)I"⟩
def RJx145de : String := "java/io/Serializable"
def TJx145de : u_T := fun k => match k with
  | _ => ("", "", "", false)
def tyJx145de : Nat → FieldType := fun k => match k with
  | _ => .int
abbrev wsJx145de0 : List Cond := u_ws RJx145de TJx145de 0
theorem nmJx145de : ∀ a, a < 0 → ∀ b, b < 0 → a ≠ b → (TJx145de a).2.1 ≠ (TJx145de b).2.1 := by decide +kernel
theorem tyJx145de_ok : ∀ k, k < 0 → parseFieldDescriptor (TJx145de k).2.2.1 = some (tyJx145de k) := by decide +kernel
def RJ9 : String := "java/lang/Math"
def TJ9 : u_T := fun k => match k with
  | _ => ("", "", "", false)
def tyJ9 : Nat → FieldType := fun k => match k with
  | _ => .int
abbrev wsJ90 : List Cond := u_ws RJ9 TJ9 0
theorem nmJ9 : ∀ a, a < 0 → ∀ b, b < 0 → a ≠ b → (TJ9 a).2.1 ≠ (TJ9 b).2.1 := by decide +kernel
theorem tyJ9_ok : ∀ k, k < 0 → parseFieldDescriptor (TJ9 k).2.2.1 = some (tyJ9 k) := by decide +kernel
abbrev cJ9_max_7cf53 : ByteArray := prog_9_method_65_code
def yJ9_max_7cf53 : MethodName := ⟨RJ9, "max", "(II)I"⟩
abbrev cJ9_min_7cf53 : ByteArray := prog_9_method_69_code
def yJ9_min_7cf53 : MethodName := ⟨RJ9, "min", "(II)I"⟩
def RJ0 : String := "java/lang/String"
def TJ0 : u_T := fun k => match k with
  | _ => ("", "", "", false)
def tyJ0 : Nat → FieldType := fun k => match k with
  | _ => .int
abbrev wsJ00 : List Cond := u_ws RJ0 TJ0 0
theorem nmJ0 : ∀ a, a < 0 → ∀ b, b < 0 → a ≠ b → (TJ0 a).2.1 ≠ (TJ0 b).2.1 := by decide +kernel
theorem tyJ0_ok : ∀ k, k < 0 → parseFieldDescriptor (TJ0 k).2.2.1 = some (tyJ0 k) := by decide +kernel
def RJ10 : String := "java/lang/System"
def TJ10 : u_T := fun k => match k with
  | _ => ("", "", "", false)
def tyJ10 : Nat → FieldType := fun k => match k with
  | _ => .int
abbrev wsJ100 : List Cond := u_ws RJ10 TJ10 0
theorem nmJ10 : ∀ a, a < 0 → ∀ b, b < 0 → a ≠ b → (TJ10 a).2.1 ≠ (TJ10 b).2.1 := by decide +kernel
theorem tyJ10_ok : ∀ k, k < 0 → parseFieldDescriptor (TJ10 k).2.2.1 = some (tyJ10 k) := by decide +kernel
def RJ7 : String := "java/util/Arrays"
def TJ7 : u_T := fun k => match k with
  | _ => ("", "", "", false)
def tyJ7 : Nat → FieldType := fun k => match k with
  | _ => .int
abbrev wsJ70 : List Cond := u_ws RJ7 TJ7 0
theorem nmJ7 : ∀ a, a < 0 → ∀ b, b < 0 → a ≠ b → (TJ7 a).2.1 ≠ (TJ7 b).2.1 := by decide +kernel
theorem tyJ7_ok : ∀ k, k < 0 → parseFieldDescriptor (TJ7 k).2.2.1 = some (tyJ7 k) := by decide +kernel
abbrev cJ7_fill_53178 : ByteArray := prog_14_method_103_code
def yJ7_fill_53178 : MethodName := ⟨RJ7, "fill", "([II)V"⟩
def RL : String := "TableChangerLaw"
abbrev cL_insert : ByteArray := method_3_code
def yL_insert : MethodName := ⟨RL, "insert", "(LTableChanger;III)I"⟩
abbrev cL_update : ByteArray := method_4_code
def yL_update : MethodName := ⟨RL, "update", "(LTableChanger;III)I"⟩
abbrev cL_delete : ByteArray := method_5_code
def yL_delete : MethodName := ⟨RL, "delete", "(LTableChanger;I[J)I"⟩
abbrev cL_rekey : ByteArray := method_6_code
def yL_rekey : MethodName := ⟨RL, "rekey", "(LTableChanger;II)I"⟩
abbrev cL_start : ByteArray := method_7_code
def yL_start : MethodName := ⟨RL, "start", "(LTableChanger;II)I"⟩
abbrev cL_setPace : ByteArray := method_8_code
def yL_setPace : MethodName := ⟨RL, "setPace", "(LTableChanger;II)I"⟩
abbrev cL_tick : ByteArray := method_9_code
def yL_tick : MethodName := ⟨RL, "tick", "(LTableChanger;I[J)I"⟩
abbrev cL_cutOver : ByteArray := method_10_code
def yL_cutOver : MethodName := ⟨RL, "cutOver", "(LTableChanger;I[J)I"⟩
abbrev cL_undo : ByteArray := method_11_code
def yL_undo : MethodName := ⟨RL, "undo", "(LTableChanger;)I"⟩
abbrev cL_finish : ByteArray := method_12_code
def yL_finish : MethodName := ⟨RL, "finish", "(LTableChanger;[J)I"⟩
abbrev cL_giveUp : ByteArray := method_13_code
def yL_giveUp : MethodName := ⟨RL, "giveUp", "(LTableChanger;[J)I"⟩
abbrev cL_row : ByteArray := method_14_code
def yL_row : MethodName := ⟨RL, "row", "(LTableChanger;I[J)I"⟩
abbrev cL_shadow : ByteArray := method_15_code
def yL_shadow : MethodName := ⟨RL, "shadow", "(LTableChanger;II[J)I"⟩
abbrev cL_isRefused : ByteArray := method_16_code
def yL_isRefused : MethodName := ⟨RL, "isRefused", "(LTableChanger;I[J)I"⟩
abbrev cL_sum : ByteArray := method_17_code
def yL_sum : MethodName := ⟨RL, "sum", "(LTableChanger;I[J)I"⟩
abbrev cL_sumAtOnce : ByteArray := method_18_code
def yL_sumAtOnce : MethodName := ⟨RL, "sumAtOnce", "(LTableChanger;I[J)I"⟩
abbrev cL_law : ByteArray := code
def yL_law : MethodName := ⟨RL, "law", "([I)Z"⟩
abbrev vwCl : List vw_C := [(RX0, TX0, 12), (RX1, TX1, 13)]
end
section
/-! MINE: the words of the tables that a warmed state keeps, as one list for every method. -/
def WL : List Cond := lw_tbl.filter goodWord
theorem wk_of {w : Cond} {i : Nat} (h : lw_tbl[i]? = some w) (g : goodWord w = true) : w ∈ WL := List.mem_filter.mpr ⟨List.mem_of_getElem? h, g⟩
theorem wk_tbl {w : Cond} (h : w ∈ WL) : w ∈ lw_tbl := (List.mem_filter.mp h).1
theorem wk_good {y y' : Cond} (h : y' ∈ WL) : GoodIn (y :: WL) (y' :: WL) := fun w hw => by
  have h1 : w ∈ WL := (List.mem_cons.mp hw).elim (fun e => by rw [e]; exact h) id
  exact ⟨List.mem_cons_of_mem _ h1, good_of_word (List.mem_filter.mp h1).2⟩
theorem wk_goodL {y' : Cond} (h : y' ∈ WL) : GoodIn WL (y' :: WL) := fun w hw => by
  have h1 : w ∈ WL := (List.mem_cons.mp hw).elim (fun e => by rw [e]; exact h) id
  exact ⟨h1, good_of_word (List.mem_filter.mp h1).2⟩
theorem wk_X0 : ∀ w ∈ wsX00, w ∈ WL := fun w hw => by
  obtain ⟨k, hk, rfl⟩ := List.mem_map.mp hw
  exact (show ∀ k, k < 12 → u_lay RX0 TX0 k ∈ WL from fun k hk => List.mem_filter.mpr ⟨(show ∀ k, k < 12 → u_lay RX0 TX0 k ∈ lw_tbl by decide +kernel) k hk, (show ∀ k, k < 12 → goodWord (u_lay RX0 TX0 k) = true by decide +kernel) k hk⟩) k (List.mem_range.mp hk)
theorem wk_X1 : ∀ w ∈ wsX10, w ∈ WL := fun w hw => by
  obtain ⟨k, hk, rfl⟩ := List.mem_map.mp hw
  exact (show ∀ k, k < 13 → u_lay RX1 TX1 k ∈ WL from fun k hk => List.mem_filter.mpr ⟨(show ∀ k, k < 13 → u_lay RX1 TX1 k ∈ lw_tbl by decide +kernel) k hk, (show ∀ k, k < 13 → goodWord (u_lay RX1 TX1 k) = true by decide +kernel) k hk⟩) k (List.mem_range.mp hk)
theorem wk_0 : (Cond.initialized RL : Cond) ∈ WL := wk_of (i := 33) (by decide +kernel) (by decide +kernel)
theorem wk_1 : (Cond.initialized RX0 : Cond) ∈ WL := wk_of (i := 34) (by decide +kernel) (by decide +kernel)
theorem wk_2 : (Cond.initialized RJ7 : Cond) ∈ WL := wk_of (i := 35) (by decide +kernel) (by decide +kernel)
theorem wk_3 : (Cond.initialized RX1 : Cond) ∈ WL := wk_of (i := 36) (by decide +kernel) (by decide +kernel)
theorem wk_4 : (Cond.initialized "java/lang/Throwable" : Cond) ∈ WL := wk_of (i := 37) (by decide +kernel) (by decide +kernel)
theorem wk_5 : (Cond.initialized "java/lang/Exception" : Cond) ∈ WL := wk_of (i := 38) (by decide +kernel) (by decide +kernel)
theorem wk_6 : (Cond.initialized "java/lang/RuntimeException" : Cond) ∈ WL := wk_of (i := 39) (by decide +kernel) (by decide +kernel)
theorem wk_7 : (Cond.initialized "java/lang/IndexOutOfBoundsException" : Cond) ∈ WL := wk_of (i := 40) (by decide +kernel) (by decide +kernel)
theorem wk_8 : (Cond.initialized "java/lang/IllegalArgumentException" : Cond) ∈ WL := wk_of (i := 41) (by decide +kernel) (by decide +kernel)
theorem wk_9 : (Cond.initialized "java/lang/IllegalStateException" : Cond) ∈ WL := wk_of (i := 42) (by decide +kernel) (by decide +kernel)
theorem wk_10 : (Cond.initialized "java/util/NoSuchElementException" : Cond) ∈ WL := wk_of (i := 43) (by decide +kernel) (by decide +kernel)
theorem wk_11 : (Cond.initialized RJ9 : Cond) ∈ WL := wk_of (i := 44) (by decide +kernel) (by decide +kernel)
theorem wk_12 : (Cond.initialized RJ10 : Cond) ∈ WL := wk_of (i := 45) (by decide +kernel) (by decide +kernel)
theorem wk_13 : (Cond.classLink RL 8 RX0 : Cond) ∈ WL := wk_of (i := 46) (by decide +kernel) (by decide +kernel)
theorem wk_14 : (Cond.instantiable RX0 12 : Cond) ∈ WL := wk_of (i := 47) (by decide +kernel) (by decide +kernel)
theorem wk_15 : (Cond.methodLink RL 71 yX0_init : Cond) ∈ WL := wk_of (i := 48) (by decide +kernel) (by decide +kernel)
theorem wk_16 : (Cond.instanceMethod yX0_init : Cond) ∈ WL := wk_of (i := 49) (by decide +kernel) (by decide +kernel)
theorem wk_17 : (Cond.code yX0_init cX0_init 5 none : Cond) ∈ WL := wk_of (i := 50) (by decide +kernel) (by decide +kernel)
theorem wk_18 : (Cond.methodLink RX0 1 objectInit : Cond) ∈ WL := wk_of (i := 51) (by decide +kernel) (by decide +kernel)
theorem wk_19 : (Cond.instanceMethod objectInit : Cond) ∈ WL := wk_of (i := 52) (by decide +kernel) (by decide +kernel)
theorem wk_20 : (Cond.code objectInit ⟨#[0xb1]⟩ 1 none : Cond) ∈ WL := wk_of (i := 53) (by decide +kernel) (by decide +kernel)
theorem wk_21 : (Cond.classLink RX0 16 "[[I" : Cond) ∈ WL := wk_of (i := 54) (by decide +kernel) (by decide +kernel)
theorem wk_23 : (Cond.methodLink RX0 28 yJ7_fill_53178 : Cond) ∈ WL := wk_of (i := 56) (by decide +kernel) (by decide +kernel)
theorem wk_24 : (Cond.static yJ7_fill_53178 : Cond) ∈ WL := wk_of (i := 57) (by decide +kernel) (by decide +kernel)
theorem wk_25 : (Cond.code yJ7_fill_53178 cJ7_fill_53178 4 none : Cond) ∈ WL := wk_of (i := 58) (by decide +kernel) (by decide +kernel)
theorem wk_26 : (Cond.fieldLink RX0 9 "TableChanger" "oldA" "[I" : Cond) ∈ WL := wk_of (i := 59) (by decide +kernel) (by decide +kernel)
theorem wk_27 : (Cond.fieldLink RX0 13 "TableChanger" "oldB" "[I" : Cond) ∈ WL := wk_of (i := 60) (by decide +kernel) (by decide +kernel)
theorem wk_28 : (Cond.fieldLink RX0 18 "TableChanger" "shadowColumns" "[[I" : Cond) ∈ WL := wk_of (i := 61) (by decide +kernel) (by decide +kernel)
theorem wk_29 : (Cond.fieldLink RX0 21 "TableChanger" "refusedKeys" "[Z" : Cond) ∈ WL := wk_of (i := 62) (by decide +kernel) (by decide +kernel)
theorem wk_30 : (Cond.fieldLink RX0 25 "TableChanger" "notedKeys" "[I" : Cond) ∈ WL := wk_of (i := 63) (by decide +kernel) (by decide +kernel)
theorem wk_31 : (Cond.fieldLink RX0 134 "TableChanger" "noteCount" "I" : Cond) ∈ WL := wk_of (i := 64) (by decide +kernel) (by decide +kernel)
theorem wk_32 : (Cond.fieldLink RX0 34 "TableChanger" "currentPhase" "I" : Cond) ∈ WL := wk_of (i := 65) (by decide +kernel) (by decide +kernel)
theorem wk_33 : (Cond.fieldLink RX0 121 "TableChanger" "currentMark" "I" : Cond) ∈ WL := wk_of (i := 66) (by decide +kernel) (by decide +kernel)
theorem wk_34 : (Cond.fieldLink RX0 115 "TableChanger" "currentAlteration" "I" : Cond) ∈ WL := wk_of (i := 67) (by decide +kernel) (by decide +kernel)
theorem wk_35 : (Cond.fieldLink RX0 118 "TableChanger" "currentParameter" "I" : Cond) ∈ WL := wk_of (i := 68) (by decide +kernel) (by decide +kernel)
theorem wk_36 : (Cond.fieldLink RX0 38 "TableChanger" "chunkSize" "I" : Cond) ∈ WL := wk_of (i := 69) (by decide +kernel) (by decide +kernel)
theorem wk_37 : (Cond.fieldLink RX0 41 "TableChanger" "greatestLag" "I" : Cond) ∈ WL := wk_of (i := 70) (by decide +kernel) (by decide +kernel)
theorem wk_63 : (Cond.arrayClass .int : Cond) ∈ WL := wk_of (i := 96) (by decide +kernel) (by decide +kernel)
theorem wk_64 : (Cond.arrayClass .boolean : Cond) ∈ WL := wk_of (i := 97) (by decide +kernel) (by decide +kernel)
theorem wk_65 : (Cond.methodLink RL 121 yX0_rows : Cond) ∈ WL := wk_of (i := 98) (by decide +kernel) (by decide +kernel)
theorem wk_66 : (Cond.instanceMethod yX0_rows : Cond) ∈ WL := wk_of (i := 99) (by decide +kernel) (by decide +kernel)
theorem wk_67 : (Cond.selects RX0 yX0_rows yX0_rows : Cond) ∈ WL := wk_of (i := 100) (by decide +kernel) (by decide +kernel)
theorem wk_68 : (Cond.code yX0_rows cX0_rows 3 (some .int) : Cond) ∈ WL := wk_of (i := 101) (by decide +kernel) (by decide +kernel)
theorem wk_69 : (Cond.methodLink RX0 64 yX0_isSeen : Cond) ∈ WL := wk_of (i := 102) (by decide +kernel) (by decide +kernel)
theorem wk_71 : (Cond.instanceMethod yX0_isSeen : Cond) ∈ WL := wk_of (i := 104) (by decide +kernel) (by decide +kernel)
theorem wk_72 : (Cond.code yX0_isSeen cX0_isSeen 2 (some .boolean) : Cond) ∈ WL := wk_of (i := 105) (by decide +kernel) (by decide +kernel)
theorem wk_73 : (Cond.methodLink RX0 174 yX0_isInOld : Cond) ∈ WL := wk_of (i := 106) (by decide +kernel) (by decide +kernel)
theorem wk_75 : (Cond.instanceMethod yX0_isInOld : Cond) ∈ WL := wk_of (i := 108) (by decide +kernel) (by decide +kernel)
theorem wk_76 : (Cond.code yX0_isInOld cX0_isInOld 2 (some .boolean) : Cond) ∈ WL := wk_of (i := 109) (by decide +kernel) (by decide +kernel)
theorem wk_77 : (Cond.methodLink RX0 160 yX0_isInShadow : Cond) ∈ WL := wk_of (i := 110) (by decide +kernel) (by decide +kernel)
theorem wk_79 : (Cond.instanceMethod yX0_isInShadow : Cond) ∈ WL := wk_of (i := 112) (by decide +kernel) (by decide +kernel)
theorem wk_80 : (Cond.code yX0_isInShadow cX0_isInShadow 2 (some .boolean) : Cond) ∈ WL := wk_of (i := 113) (by decide +kernel) (by decide +kernel)
theorem wk_81 : (Cond.methodLink RL 125 yX0_phase : Cond) ∈ WL := wk_of (i := 114) (by decide +kernel) (by decide +kernel)
theorem wk_82 : (Cond.instanceMethod yX0_phase : Cond) ∈ WL := wk_of (i := 115) (by decide +kernel) (by decide +kernel)
theorem wk_83 : (Cond.selects RX0 yX0_phase yX0_phase : Cond) ∈ WL := wk_of (i := 116) (by decide +kernel) (by decide +kernel)
theorem wk_84 : (Cond.code yX0_phase cX0_phase 1 (some .int) : Cond) ∈ WL := wk_of (i := 117) (by decide +kernel) (by decide +kernel)
theorem wk_85 : (Cond.methodLink RL 129 yX0_mark : Cond) ∈ WL := wk_of (i := 118) (by decide +kernel) (by decide +kernel)
theorem wk_86 : (Cond.instanceMethod yX0_mark : Cond) ∈ WL := wk_of (i := 119) (by decide +kernel) (by decide +kernel)
theorem wk_87 : (Cond.selects RX0 yX0_mark yX0_mark : Cond) ∈ WL := wk_of (i := 120) (by decide +kernel) (by decide +kernel)
theorem wk_88 : (Cond.code yX0_mark cX0_mark 1 (some .int) : Cond) ∈ WL := wk_of (i := 121) (by decide +kernel) (by decide +kernel)
theorem wk_89 : (Cond.methodLink RL 133 yX0_notes : Cond) ∈ WL := wk_of (i := 122) (by decide +kernel) (by decide +kernel)
theorem wk_90 : (Cond.instanceMethod yX0_notes : Cond) ∈ WL := wk_of (i := 123) (by decide +kernel) (by decide +kernel)
theorem wk_91 : (Cond.selects RX0 yX0_notes yX0_notes : Cond) ∈ WL := wk_of (i := 124) (by decide +kernel) (by decide +kernel)
theorem wk_92 : (Cond.code yX0_notes cX0_notes 1 (some .int) : Cond) ∈ WL := wk_of (i := 125) (by decide +kernel) (by decide +kernel)
theorem wk_93 : (Cond.methodLink RL 141 yX0_shadowRows : Cond) ∈ WL := wk_of (i := 126) (by decide +kernel) (by decide +kernel)
theorem wk_94 : (Cond.instanceMethod yX0_shadowRows : Cond) ∈ WL := wk_of (i := 127) (by decide +kernel) (by decide +kernel)
theorem wk_95 : (Cond.selects RX0 yX0_shadowRows yX0_shadowRows : Cond) ∈ WL := wk_of (i := 128) (by decide +kernel) (by decide +kernel)
theorem wk_96 : (Cond.code yX0_shadowRows cX0_shadowRows 3 (some .int) : Cond) ∈ WL := wk_of (i := 129) (by decide +kernel) (by decide +kernel)
theorem wk_97 : (Cond.methodLink RL 148 yX0_behind : Cond) ∈ WL := wk_of (i := 130) (by decide +kernel) (by decide +kernel)
theorem wk_98 : (Cond.instanceMethod yX0_behind : Cond) ∈ WL := wk_of (i := 131) (by decide +kernel) (by decide +kernel)
theorem wk_99 : (Cond.selects RX0 yX0_behind yX0_behind : Cond) ∈ WL := wk_of (i := 132) (by decide +kernel) (by decide +kernel)
theorem wk_100 : (Cond.code yX0_behind cX0_behind 3 (some .int) : Cond) ∈ WL := wk_of (i := 133) (by decide +kernel) (by decide +kernel)
theorem wk_101 : (Cond.methodLink RX0 163 yX0_isBehind : Cond) ∈ WL := wk_of (i := 134) (by decide +kernel) (by decide +kernel)
theorem wk_103 : (Cond.instanceMethod yX0_isBehind : Cond) ∈ WL := wk_of (i := 136) (by decide +kernel) (by decide +kernel)
theorem wk_104 : (Cond.code yX0_isBehind cX0_isBehind 3 (some .boolean) : Cond) ∈ WL := wk_of (i := 137) (by decide +kernel) (by decide +kernel)
theorem wk_105 : (Cond.methodLink RX0 168 yX0_broughtColumn : Cond) ∈ WL := wk_of (i := 138) (by decide +kernel) (by decide +kernel)
theorem wk_107 : (Cond.instanceMethod yX0_broughtColumn : Cond) ∈ WL := wk_of (i := 140) (by decide +kernel) (by decide +kernel)
theorem wk_108 : (Cond.code yX0_broughtColumn cX0_broughtColumn 3 (some .int) : Cond) ∈ WL := wk_of (i := 141) (by decide +kernel) (by decide +kernel)
theorem wk_109 : (Cond.methodLink RX0 171 yX0_fits : Cond) ∈ WL := wk_of (i := 142) (by decide +kernel) (by decide +kernel)
theorem wk_111 : (Cond.instanceMethod yX0_fits : Cond) ∈ WL := wk_of (i := 144) (by decide +kernel) (by decide +kernel)
theorem wk_112 : (Cond.code yX0_fits cX0_fits 2 (some .boolean) : Cond) ∈ WL := wk_of (i := 145) (by decide +kernel) (by decide +kernel)
theorem wk_113 : (Cond.methodLink RX0 186 yX0_alteredColumn : Cond) ∈ WL := wk_of (i := 146) (by decide +kernel) (by decide +kernel)
theorem wk_115 : (Cond.instanceMethod yX0_alteredColumn : Cond) ∈ WL := wk_of (i := 148) (by decide +kernel) (by decide +kernel)
theorem wk_116 : (Cond.code yX0_alteredColumn cX0_alteredColumn 4 (some .int) : Cond) ∈ WL := wk_of (i := 149) (by decide +kernel) (by decide +kernel)
theorem wk_117 : (Cond.methodLink RX0 177 yX0_alteredMiddle : Cond) ∈ WL := wk_of (i := 150) (by decide +kernel) (by decide +kernel)
theorem wk_119 : (Cond.instanceMethod yX0_alteredMiddle : Cond) ∈ WL := wk_of (i := 152) (by decide +kernel) (by decide +kernel)
theorem wk_120 : (Cond.code yX0_alteredMiddle cX0_alteredMiddle 3 (some .int) : Cond) ∈ WL := wk_of (i := 153) (by decide +kernel) (by decide +kernel)
theorem wk_121 : (Cond.methodLink RX0 180 yX0_alteredLast : Cond) ∈ WL := wk_of (i := 154) (by decide +kernel) (by decide +kernel)
theorem wk_123 : (Cond.instanceMethod yX0_alteredLast : Cond) ∈ WL := wk_of (i := 156) (by decide +kernel) (by decide +kernel)
theorem wk_124 : (Cond.code yX0_alteredLast cX0_alteredLast 2 (some .int) : Cond) ∈ WL := wk_of (i := 157) (by decide +kernel) (by decide +kernel)
theorem wk_125 : (Cond.methodLink RX0 183 yX0_digits : Cond) ∈ WL := wk_of (i := 158) (by decide +kernel) (by decide +kernel)
theorem wk_126 : (Cond.static yX0_digits : Cond) ∈ WL := wk_of (i := 159) (by decide +kernel) (by decide +kernel)
theorem wk_127 : (Cond.code yX0_digits cX0_digits 1 (some .int) : Cond) ∈ WL := wk_of (i := 160) (by decide +kernel) (by decide +kernel)
theorem wk_128 : (Cond.methodLink RL 75 yL_insert : Cond) ∈ WL := wk_of (i := 161) (by decide +kernel) (by decide +kernel)
theorem wk_129 : (Cond.static yL_insert : Cond) ∈ WL := wk_of (i := 162) (by decide +kernel) (by decide +kernel)
theorem wk_130 : (Cond.codeWith yL_insert cL_insert 5 (some .int) [(0, 7, 10, 13), (0, 7, 14, 15), (0, 7, 18, 17)] : Cond) ∈ WL := wk_of (i := 163) (by decide +kernel) (by decide +kernel)
theorem wk_131 : (Cond.classLink RL 13 "java/lang/IndexOutOfBoundsException" : Cond) ∈ WL := wk_of (i := 164) (by decide +kernel) (by decide +kernel)
theorem wk_132 : (Cond.classLink RL 15 "java/lang/IllegalArgumentException" : Cond) ∈ WL := wk_of (i := 165) (by decide +kernel) (by decide +kernel)
theorem wk_133 : (Cond.classLink RL 17 "java/lang/IllegalStateException" : Cond) ∈ WL := wk_of (i := 166) (by decide +kernel) (by decide +kernel)
theorem wk_134 : (Cond.methodLink RL 7 yX0_insert : Cond) ∈ WL := wk_of (i := 167) (by decide +kernel) (by decide +kernel)
theorem wk_135 : (Cond.instanceMethod yX0_insert : Cond) ∈ WL := wk_of (i := 168) (by decide +kernel) (by decide +kernel)
theorem wk_136 : (Cond.selects RX0 yX0_insert yX0_insert : Cond) ∈ WL := wk_of (i := 169) (by decide +kernel) (by decide +kernel)
theorem wk_137 : (Cond.code yX0_insert cX0_insert 4 none : Cond) ∈ WL := wk_of (i := 170) (by decide +kernel) (by decide +kernel)
theorem wk_138 : (Cond.methodLink RX0 44 yX0_isKey : Cond) ∈ WL := wk_of (i := 171) (by decide +kernel) (by decide +kernel)
theorem wk_139 : (Cond.static yX0_isKey : Cond) ∈ WL := wk_of (i := 172) (by decide +kernel) (by decide +kernel)
theorem wk_140 : (Cond.code yX0_isKey cX0_isKey 1 (some .boolean) : Cond) ∈ WL := wk_of (i := 173) (by decide +kernel) (by decide +kernel)
theorem wk_141 : (Cond.methodLink RX0 107 yX0_isWithin : Cond) ∈ WL := wk_of (i := 174) (by decide +kernel) (by decide +kernel)
theorem wk_142 : (Cond.static yX0_isWithin : Cond) ∈ WL := wk_of (i := 175) (by decide +kernel) (by decide +kernel)
theorem wk_143 : (Cond.code yX0_isWithin cX0_isWithin 3 (some .boolean) : Cond) ∈ WL := wk_of (i := 176) (by decide +kernel) (by decide +kernel)
theorem wk_144 : (Cond.classLink RX0 48 "java/lang/IndexOutOfBoundsException" : Cond) ∈ WL := wk_of (i := 177) (by decide +kernel) (by decide +kernel)
theorem wk_145 : (Cond.instantiable "java/lang/IndexOutOfBoundsException" 6 : Cond) ∈ WL := wk_of (i := 178) (by decide +kernel) (by decide +kernel)
theorem wk_153 : (Cond.selects "java/lang/IndexOutOfBoundsException" (⟨"java/lang/Throwable", "fillInStackTrace", "(I)Ljava/lang/Throwable;"⟩ : MethodName) (⟨"java/lang/Throwable", "fillInStackTrace", "(I)Ljava/lang/Throwable;"⟩ : MethodName) : Cond) ∈ WL := wk_of (i := 186) (by decide +kernel) (by decide +kernel)
theorem wk_154 : (Cond.selects "java/lang/IndexOutOfBoundsException" (⟨"java/lang/Throwable", "fillInStackTrace", "()Ljava/lang/Throwable;"⟩ : MethodName) (⟨"java/lang/Throwable", "fillInStackTrace", "()Ljava/lang/Throwable;"⟩ : MethodName) : Cond) ∈ WL := wk_of (i := 187) (by decide +kernel) (by decide +kernel)
theorem wk_165 : (Cond.fieldLink "java/lang/Throwable" 198 "java/lang/Throwable" "backtrace" "Ljava/lang/Object;" : Cond) ∈ WL := wk_of (i := 198) (by decide +kernel) (by decide +kernel)
theorem wk_167 : (Cond.instanceMethod (⟨"java/lang/Throwable", "<init>", "()V"⟩ : MethodName) : Cond) ∈ WL := wk_of (i := 200) (by decide +kernel) (by decide +kernel)
theorem wk_168 : (Cond.code (⟨"java/lang/Throwable", "<init>", "()V"⟩ : MethodName) prog_13_method_1_code 1 none : Cond) ∈ WL := wk_of (i := 201) (by decide +kernel) (by decide +kernel)
theorem wk_169 : (Cond.methodLink "java/lang/Throwable" 1 objectInit : Cond) ∈ WL := wk_of (i := 202) (by decide +kernel) (by decide +kernel)
theorem wk_170 : (Cond.fieldLink "java/lang/Throwable" 13 "java/lang/Throwable" "UNASSIGNED_STACK" "[Ljava/lang/StackTraceElement;" : Cond) ∈ WL := wk_of (i := 203) (by decide +kernel) (by decide +kernel)
theorem wk_172 : (Cond.fieldLink "java/lang/Throwable" 20 "java/lang/Throwable" "SUPPRESSED_SENTINEL" "Ljava/util/List;" : Cond) ∈ WL := wk_of (i := 205) (by decide +kernel) (by decide +kernel)
theorem wk_174 : (Cond.methodLink "java/lang/Throwable" 27 (⟨"java/lang/Throwable", "fillInStackTrace", "()Ljava/lang/Throwable;"⟩ : MethodName) : Cond) ∈ WL := wk_of (i := 207) (by decide +kernel) (by decide +kernel)
theorem wk_175 : (Cond.instanceMethod (⟨"java/lang/Throwable", "fillInStackTrace", "()Ljava/lang/Throwable;"⟩ : MethodName) : Cond) ∈ WL := wk_of (i := 208) (by decide +kernel) (by decide +kernel)
theorem wk_177 : (Cond.selects "java/lang/IllegalArgumentException" (⟨"java/lang/Throwable", "fillInStackTrace", "()Ljava/lang/Throwable;"⟩ : MethodName) (⟨"java/lang/Throwable", "fillInStackTrace", "()Ljava/lang/Throwable;"⟩ : MethodName) : Cond) ∈ WL := wk_of (i := 210) (by decide +kernel) (by decide +kernel)
theorem wk_178 : (Cond.selects "java/lang/IllegalStateException" (⟨"java/lang/Throwable", "fillInStackTrace", "()Ljava/lang/Throwable;"⟩ : MethodName) (⟨"java/lang/Throwable", "fillInStackTrace", "()Ljava/lang/Throwable;"⟩ : MethodName) : Cond) ∈ WL := wk_of (i := 211) (by decide +kernel) (by decide +kernel)
theorem wk_179 : (Cond.selects "java/util/NoSuchElementException" (⟨"java/lang/Throwable", "fillInStackTrace", "()Ljava/lang/Throwable;"⟩ : MethodName) (⟨"java/lang/Throwable", "fillInStackTrace", "()Ljava/lang/Throwable;"⟩ : MethodName) : Cond) ∈ WL := wk_of (i := 212) (by decide +kernel) (by decide +kernel)
theorem wk_181 : (Cond.methodLink "java/lang/Throwable" 202 (⟨"java/lang/Throwable", "fillInStackTrace", "(I)Ljava/lang/Throwable;"⟩ : MethodName) : Cond) ∈ WL := wk_of (i := 214) (by decide +kernel) (by decide +kernel)
theorem wk_183 : (Cond.instanceMethod (⟨"java/lang/Throwable", "fillInStackTrace", "(I)Ljava/lang/Throwable;"⟩ : MethodName) : Cond) ∈ WL := wk_of (i := 216) (by decide +kernel) (by decide +kernel)
theorem wk_184 : (Cond.instantiable "java/lang/Throwable" 6 : Cond) ∈ WL := wk_of (i := 217) (by decide +kernel) (by decide +kernel)
theorem wk_185 : (Cond.native (⟨"java/lang/Throwable", "fillInStackTrace", "(I)Ljava/lang/Throwable;"⟩ : MethodName) : Cond) ∈ WL := wk_of (i := 218) (by decide +kernel) (by decide +kernel)
theorem wk_187 : (Cond.methodLink RX0 52 (⟨"java/lang/IndexOutOfBoundsException", "<init>", "(Ljava/lang/String;)V"⟩ : MethodName) : Cond) ∈ WL := wk_of (i := 220) (by decide +kernel) (by decide +kernel)
theorem wk_188 : (Cond.instanceMethod (⟨"java/lang/IndexOutOfBoundsException", "<init>", "(Ljava/lang/String;)V"⟩ : MethodName) : Cond) ∈ WL := wk_of (i := 221) (by decide +kernel) (by decide +kernel)
theorem wk_189 : (Cond.code (⟨"java/lang/IndexOutOfBoundsException", "<init>", "(Ljava/lang/String;)V"⟩ : MethodName) prog_8_method_2_code 2 none : Cond) ∈ WL := wk_of (i := 222) (by decide +kernel) (by decide +kernel)
theorem wk_190 : (Cond.methodLink "java/lang/IndexOutOfBoundsException" 7 (⟨"java/lang/RuntimeException", "<init>", "(Ljava/lang/String;)V"⟩ : MethodName) : Cond) ∈ WL := wk_of (i := 223) (by decide +kernel) (by decide +kernel)
theorem wk_191 : (Cond.instanceMethod (⟨"java/lang/RuntimeException", "<init>", "(Ljava/lang/String;)V"⟩ : MethodName) : Cond) ∈ WL := wk_of (i := 224) (by decide +kernel) (by decide +kernel)
theorem wk_192 : (Cond.code (⟨"java/lang/RuntimeException", "<init>", "(Ljava/lang/String;)V"⟩ : MethodName) prog_10_method_2_code 2 none : Cond) ∈ WL := wk_of (i := 225) (by decide +kernel) (by decide +kernel)
theorem wk_193 : (Cond.methodLink "java/lang/RuntimeException" 7 (⟨"java/lang/Exception", "<init>", "(Ljava/lang/String;)V"⟩ : MethodName) : Cond) ∈ WL := wk_of (i := 226) (by decide +kernel) (by decide +kernel)
theorem wk_194 : (Cond.instanceMethod (⟨"java/lang/Exception", "<init>", "(Ljava/lang/String;)V"⟩ : MethodName) : Cond) ∈ WL := wk_of (i := 227) (by decide +kernel) (by decide +kernel)
theorem wk_195 : (Cond.code (⟨"java/lang/Exception", "<init>", "(Ljava/lang/String;)V"⟩ : MethodName) prog_5_method_2_code 2 none : Cond) ∈ WL := wk_of (i := 228) (by decide +kernel) (by decide +kernel)
theorem wk_196 : (Cond.methodLink "java/lang/Exception" 7 (⟨"java/lang/Throwable", "<init>", "(Ljava/lang/String;)V"⟩ : MethodName) : Cond) ∈ WL := wk_of (i := 229) (by decide +kernel) (by decide +kernel)
theorem wk_197 : (Cond.instanceMethod (⟨"java/lang/Throwable", "<init>", "(Ljava/lang/String;)V"⟩ : MethodName) : Cond) ∈ WL := wk_of (i := 230) (by decide +kernel) (by decide +kernel)
theorem wk_198 : (Cond.code (⟨"java/lang/Throwable", "<init>", "(Ljava/lang/String;)V"⟩ : MethodName) prog_13_method_2_code 2 none : Cond) ∈ WL := wk_of (i := 231) (by decide +kernel) (by decide +kernel)
theorem wk_200 : (Cond.fieldLink "java/lang/Throwable" 31 "java/lang/Throwable" "detailMessage" "Ljava/lang/String;" : Cond) ∈ WL := wk_of (i := 233) (by decide +kernel) (by decide +kernel)
theorem wk_201 : (Cond.fieldLink "java/lang/Throwable" 7 "java/lang/Throwable" "cause" "Ljava/lang/Throwable;" : Cond) ∈ WL := wk_of (i := 234) (by decide +kernel) (by decide +kernel)
theorem wk_202 : (Cond.fieldLink "java/lang/Throwable" 17 "java/lang/Throwable" "stackTrace" "[Ljava/lang/StackTraceElement;" : Cond) ∈ WL := wk_of (i := 235) (by decide +kernel) (by decide +kernel)
theorem wk_203 : (Cond.fieldLink "java/lang/Throwable" 24 "java/lang/Throwable" "suppressedExceptions" "Ljava/util/List;" : Cond) ∈ WL := wk_of (i := 236) (by decide +kernel) (by decide +kernel)
theorem wk_212 : (Cond.arrayClass .byte : Cond) ∈ WL := wk_of (i := 245) (by decide +kernel) (by decide +kernel)
theorem wk_213 : (Cond.methodLink RX0 55 yX0_canBeWritten : Cond) ∈ WL := wk_of (i := 246) (by decide +kernel) (by decide +kernel)
theorem wk_215 : (Cond.instanceMethod yX0_canBeWritten : Cond) ∈ WL := wk_of (i := 248) (by decide +kernel) (by decide +kernel)
theorem wk_216 : (Cond.code yX0_canBeWritten cX0_canBeWritten 3 (some .boolean) : Cond) ∈ WL := wk_of (i := 249) (by decide +kernel) (by decide +kernel)
theorem wk_217 : (Cond.classLink RX0 59 "java/lang/IllegalArgumentException" : Cond) ∈ WL := wk_of (i := 250) (by decide +kernel) (by decide +kernel)
theorem wk_218 : (Cond.instantiable "java/lang/IllegalArgumentException" 6 : Cond) ∈ WL := wk_of (i := 251) (by decide +kernel) (by decide +kernel)
theorem wk_220 : (Cond.selects "java/lang/IllegalArgumentException" (⟨"java/lang/Throwable", "fillInStackTrace", "(I)Ljava/lang/Throwable;"⟩ : MethodName) (⟨"java/lang/Throwable", "fillInStackTrace", "(I)Ljava/lang/Throwable;"⟩ : MethodName) : Cond) ∈ WL := wk_of (i := 253) (by decide +kernel) (by decide +kernel)
theorem wk_227 : (Cond.methodLink RX0 63 (⟨"java/lang/IllegalArgumentException", "<init>", "(Ljava/lang/String;)V"⟩ : MethodName) : Cond) ∈ WL := wk_of (i := 260) (by decide +kernel) (by decide +kernel)
theorem wk_228 : (Cond.instanceMethod (⟨"java/lang/IllegalArgumentException", "<init>", "(Ljava/lang/String;)V"⟩ : MethodName) : Cond) ∈ WL := wk_of (i := 261) (by decide +kernel) (by decide +kernel)
theorem wk_229 : (Cond.code (⟨"java/lang/IllegalArgumentException", "<init>", "(Ljava/lang/String;)V"⟩ : MethodName) prog_6_method_2_code 2 none : Cond) ∈ WL := wk_of (i := 262) (by decide +kernel) (by decide +kernel)
theorem wk_230 : (Cond.methodLink "java/lang/IllegalArgumentException" 7 (⟨"java/lang/RuntimeException", "<init>", "(Ljava/lang/String;)V"⟩ : MethodName) : Cond) ∈ WL := wk_of (i := 263) (by decide +kernel) (by decide +kernel)
theorem wk_233 : (Cond.classLink RX0 67 "java/lang/IllegalStateException" : Cond) ∈ WL := wk_of (i := 266) (by decide +kernel) (by decide +kernel)
theorem wk_234 : (Cond.instantiable "java/lang/IllegalStateException" 6 : Cond) ∈ WL := wk_of (i := 267) (by decide +kernel) (by decide +kernel)
theorem wk_236 : (Cond.selects "java/lang/IllegalStateException" (⟨"java/lang/Throwable", "fillInStackTrace", "(I)Ljava/lang/Throwable;"⟩ : MethodName) (⟨"java/lang/Throwable", "fillInStackTrace", "(I)Ljava/lang/Throwable;"⟩ : MethodName) : Cond) ∈ WL := wk_of (i := 269) (by decide +kernel) (by decide +kernel)
theorem wk_243 : (Cond.methodLink RX0 71 (⟨"java/lang/IllegalStateException", "<init>", "(Ljava/lang/String;)V"⟩ : MethodName) : Cond) ∈ WL := wk_of (i := 276) (by decide +kernel) (by decide +kernel)
theorem wk_244 : (Cond.instanceMethod (⟨"java/lang/IllegalStateException", "<init>", "(Ljava/lang/String;)V"⟩ : MethodName) : Cond) ∈ WL := wk_of (i := 277) (by decide +kernel) (by decide +kernel)
theorem wk_245 : (Cond.code (⟨"java/lang/IllegalStateException", "<init>", "(Ljava/lang/String;)V"⟩ : MethodName) prog_7_method_2_code 2 none : Cond) ∈ WL := wk_of (i := 278) (by decide +kernel) (by decide +kernel)
theorem wk_246 : (Cond.methodLink "java/lang/IllegalStateException" 7 (⟨"java/lang/RuntimeException", "<init>", "(Ljava/lang/String;)V"⟩ : MethodName) : Cond) ∈ WL := wk_of (i := 279) (by decide +kernel) (by decide +kernel)
theorem wk_249 : (Cond.methodLink RX0 72 yX0_putRow : Cond) ∈ WL := wk_of (i := 282) (by decide +kernel) (by decide +kernel)
theorem wk_251 : (Cond.instanceMethod yX0_putRow : Cond) ∈ WL := wk_of (i := 284) (by decide +kernel) (by decide +kernel)
theorem wk_252 : (Cond.code yX0_putRow cX0_putRow 4 none : Cond) ∈ WL := wk_of (i := 285) (by decide +kernel) (by decide +kernel)
theorem wk_253 : (Cond.methodLink RX0 76 yX0_followWrite : Cond) ∈ WL := wk_of (i := 286) (by decide +kernel) (by decide +kernel)
theorem wk_255 : (Cond.instanceMethod yX0_followWrite : Cond) ∈ WL := wk_of (i := 288) (by decide +kernel) (by decide +kernel)
theorem wk_256 : (Cond.code yX0_followWrite cX0_followWrite 2 none : Cond) ∈ WL := wk_of (i := 289) (by decide +kernel) (by decide +kernel)
theorem wk_257 : (Cond.methodLink RX0 190 yX0_noteKey : Cond) ∈ WL := wk_of (i := 290) (by decide +kernel) (by decide +kernel)
theorem wk_259 : (Cond.instanceMethod yX0_noteKey : Cond) ∈ WL := wk_of (i := 292) (by decide +kernel) (by decide +kernel)
theorem wk_260 : (Cond.code yX0_noteKey cX0_noteKey 2 none : Cond) ∈ WL := wk_of (i := 293) (by decide +kernel) (by decide +kernel)
theorem wk_261 : (Cond.methodLink RX0 193 yX0_bring : Cond) ∈ WL := wk_of (i := 294) (by decide +kernel) (by decide +kernel)
theorem wk_263 : (Cond.instanceMethod yX0_bring : Cond) ∈ WL := wk_of (i := 296) (by decide +kernel) (by decide +kernel)
theorem wk_264 : (Cond.code yX0_bring cX0_bring 3 none : Cond) ∈ WL := wk_of (i := 297) (by decide +kernel) (by decide +kernel)
theorem wk_265 : (Cond.methodLink RL 84 yL_update : Cond) ∈ WL := wk_of (i := 298) (by decide +kernel) (by decide +kernel)
theorem wk_266 : (Cond.static yL_update : Cond) ∈ WL := wk_of (i := 299) (by decide +kernel) (by decide +kernel)
theorem wk_267 : (Cond.codeWith yL_update cL_update 5 (some .int) [(0, 7, 10, 13), (0, 7, 14, 15), (0, 7, 18, 22)] : Cond) ∈ WL := wk_of (i := 300) (by decide +kernel) (by decide +kernel)
theorem wk_268 : (Cond.classLink RL 22 "java/util/NoSuchElementException" : Cond) ∈ WL := wk_of (i := 301) (by decide +kernel) (by decide +kernel)
theorem wk_269 : (Cond.methodLink RL 19 yX0_update : Cond) ∈ WL := wk_of (i := 302) (by decide +kernel) (by decide +kernel)
theorem wk_270 : (Cond.instanceMethod yX0_update : Cond) ∈ WL := wk_of (i := 303) (by decide +kernel) (by decide +kernel)
theorem wk_271 : (Cond.selects RX0 yX0_update yX0_update : Cond) ∈ WL := wk_of (i := 304) (by decide +kernel) (by decide +kernel)
theorem wk_272 : (Cond.code yX0_update cX0_update 4 none : Cond) ∈ WL := wk_of (i := 305) (by decide +kernel) (by decide +kernel)
theorem wk_273 : (Cond.classLink RX0 80 "java/util/NoSuchElementException" : Cond) ∈ WL := wk_of (i := 306) (by decide +kernel) (by decide +kernel)
theorem wk_274 : (Cond.instantiable "java/util/NoSuchElementException" 6 : Cond) ∈ WL := wk_of (i := 307) (by decide +kernel) (by decide +kernel)
theorem wk_276 : (Cond.selects "java/util/NoSuchElementException" (⟨"java/lang/Throwable", "fillInStackTrace", "(I)Ljava/lang/Throwable;"⟩ : MethodName) (⟨"java/lang/Throwable", "fillInStackTrace", "(I)Ljava/lang/Throwable;"⟩ : MethodName) : Cond) ∈ WL := wk_of (i := 309) (by decide +kernel) (by decide +kernel)
theorem wk_283 : (Cond.methodLink RX0 84 (⟨"java/util/NoSuchElementException", "<init>", "(Ljava/lang/String;)V"⟩ : MethodName) : Cond) ∈ WL := wk_of (i := 316) (by decide +kernel) (by decide +kernel)
theorem wk_284 : (Cond.instanceMethod (⟨"java/util/NoSuchElementException", "<init>", "(Ljava/lang/String;)V"⟩ : MethodName) : Cond) ∈ WL := wk_of (i := 317) (by decide +kernel) (by decide +kernel)
theorem wk_285 : (Cond.code (⟨"java/util/NoSuchElementException", "<init>", "(Ljava/lang/String;)V"⟩ : MethodName) prog_15_method_4_code 2 none : Cond) ∈ WL := wk_of (i := 318) (by decide +kernel) (by decide +kernel)
theorem wk_286 : (Cond.methodLink "java/util/NoSuchElementException" 13 (⟨"java/lang/RuntimeException", "<init>", "(Ljava/lang/String;)V"⟩ : MethodName) : Cond) ∈ WL := wk_of (i := 319) (by decide +kernel) (by decide +kernel)
theorem wk_289 : (Cond.methodLink RL 87 yL_delete : Cond) ∈ WL := wk_of (i := 322) (by decide +kernel) (by decide +kernel)
theorem wk_290 : (Cond.static yL_delete : Cond) ∈ WL := wk_of (i := 323) (by decide +kernel) (by decide +kernel)
theorem wk_291 : (Cond.codeWith yL_delete cL_delete 4 (some .int) [(0, 9, 12, 13), (0, 9, 15, 22)] : Cond) ∈ WL := wk_of (i := 324) (by decide +kernel) (by decide +kernel)
theorem wk_292 : (Cond.methodLink RL 24 yX0_delete : Cond) ∈ WL := wk_of (i := 325) (by decide +kernel) (by decide +kernel)
theorem wk_293 : (Cond.instanceMethod yX0_delete : Cond) ∈ WL := wk_of (i := 326) (by decide +kernel) (by decide +kernel)
theorem wk_294 : (Cond.selects RX0 yX0_delete yX0_delete : Cond) ∈ WL := wk_of (i := 327) (by decide +kernel) (by decide +kernel)
theorem wk_295 : (Cond.code yX0_delete cX0_delete 3 (some .int) : Cond) ∈ WL := wk_of (i := 328) (by decide +kernel) (by decide +kernel)
theorem wk_296 : (Cond.methodLink RX0 85 yX0_rowAsNumber : Cond) ∈ WL := wk_of (i := 329) (by decide +kernel) (by decide +kernel)
theorem wk_298 : (Cond.instanceMethod yX0_rowAsNumber : Cond) ∈ WL := wk_of (i := 331) (by decide +kernel) (by decide +kernel)
theorem wk_299 : (Cond.code yX0_rowAsNumber cX0_rowAsNumber 2 (some .int) : Cond) ∈ WL := wk_of (i := 332) (by decide +kernel) (by decide +kernel)
theorem wk_300 : (Cond.methodLink RX0 89 yX0_removeRow : Cond) ∈ WL := wk_of (i := 333) (by decide +kernel) (by decide +kernel)
theorem wk_302 : (Cond.instanceMethod yX0_removeRow : Cond) ∈ WL := wk_of (i := 335) (by decide +kernel) (by decide +kernel)
theorem wk_303 : (Cond.code yX0_removeRow cX0_removeRow 2 none : Cond) ∈ WL := wk_of (i := 336) (by decide +kernel) (by decide +kernel)
theorem wk_304 : (Cond.methodLink RL 91 yL_rekey : Cond) ∈ WL := wk_of (i := 337) (by decide +kernel) (by decide +kernel)
theorem wk_305 : (Cond.static yL_rekey : Cond) ∈ WL := wk_of (i := 338) (by decide +kernel) (by decide +kernel)
theorem wk_306 : (Cond.codeWith yL_rekey cL_rekey 4 (some .int) [(0, 6, 9, 13), (0, 6, 12, 15), (0, 6, 15, 22), (0, 6, 18, 17)] : Cond) ∈ WL := wk_of (i := 339) (by decide +kernel) (by decide +kernel)
theorem wk_307 : (Cond.methodLink RL 28 yX0_rekey : Cond) ∈ WL := wk_of (i := 340) (by decide +kernel) (by decide +kernel)
theorem wk_308 : (Cond.instanceMethod yX0_rekey : Cond) ∈ WL := wk_of (i := 341) (by decide +kernel) (by decide +kernel)
theorem wk_309 : (Cond.selects RX0 yX0_rekey yX0_rekey : Cond) ∈ WL := wk_of (i := 342) (by decide +kernel) (by decide +kernel)
theorem wk_310 : (Cond.code yX0_rekey cX0_rekey 3 none : Cond) ∈ WL := wk_of (i := 343) (by decide +kernel) (by decide +kernel)
theorem wk_314 : (Cond.methodLink RX0 98 yJ9_min_7cf53 : Cond) ∈ WL := wk_of (i := 347) (by decide +kernel) (by decide +kernel)
theorem wk_315 : (Cond.static yJ9_min_7cf53 : Cond) ∈ WL := wk_of (i := 348) (by decide +kernel) (by decide +kernel)
theorem wk_316 : (Cond.code yJ9_min_7cf53 cJ9_min_7cf53 2 (some .int) : Cond) ∈ WL := wk_of (i := 349) (by decide +kernel) (by decide +kernel)
theorem wk_317 : (Cond.methodLink RX0 104 yJ9_max_7cf53 : Cond) ∈ WL := wk_of (i := 350) (by decide +kernel) (by decide +kernel)
theorem wk_318 : (Cond.static yJ9_max_7cf53 : Cond) ∈ WL := wk_of (i := 351) (by decide +kernel) (by decide +kernel)
theorem wk_319 : (Cond.code yJ9_max_7cf53 cJ9_max_7cf53 2 (some .int) : Cond) ∈ WL := wk_of (i := 352) (by decide +kernel) (by decide +kernel)
theorem wk_320 : (Cond.methodLink RL 95 yL_start : Cond) ∈ WL := wk_of (i := 353) (by decide +kernel) (by decide +kernel)
theorem wk_321 : (Cond.static yL_start : Cond) ∈ WL := wk_of (i := 354) (by decide +kernel) (by decide +kernel)
theorem wk_322 : (Cond.codeWith yL_start cL_start 4 (some .int) [(0, 6, 9, 15), (0, 6, 12, 17)] : Cond) ∈ WL := wk_of (i := 355) (by decide +kernel) (by decide +kernel)
theorem wk_323 : (Cond.methodLink RL 32 yX0_start : Cond) ∈ WL := wk_of (i := 356) (by decide +kernel) (by decide +kernel)
theorem wk_324 : (Cond.instanceMethod yX0_start : Cond) ∈ WL := wk_of (i := 357) (by decide +kernel) (by decide +kernel)
theorem wk_325 : (Cond.selects RX0 yX0_start yX0_start : Cond) ∈ WL := wk_of (i := 358) (by decide +kernel) (by decide +kernel)
theorem wk_326 : (Cond.code yX0_start cX0_start 3 none : Cond) ∈ WL := wk_of (i := 359) (by decide +kernel) (by decide +kernel)
theorem wk_329 : (Cond.methodLink RL 98 yL_setPace : Cond) ∈ WL := wk_of (i := 362) (by decide +kernel) (by decide +kernel)
theorem wk_330 : (Cond.static yL_setPace : Cond) ∈ WL := wk_of (i := 363) (by decide +kernel) (by decide +kernel)
theorem wk_331 : (Cond.codeWith yL_setPace cL_setPace 4 (some .int) [(0, 6, 9, 15)] : Cond) ∈ WL := wk_of (i := 364) (by decide +kernel) (by decide +kernel)
theorem wk_332 : (Cond.methodLink RL 35 yX0_setPace : Cond) ∈ WL := wk_of (i := 365) (by decide +kernel) (by decide +kernel)
theorem wk_333 : (Cond.instanceMethod yX0_setPace : Cond) ∈ WL := wk_of (i := 366) (by decide +kernel) (by decide +kernel)
theorem wk_334 : (Cond.selects RX0 yX0_setPace yX0_setPace : Cond) ∈ WL := wk_of (i := 367) (by decide +kernel) (by decide +kernel)
theorem wk_335 : (Cond.code yX0_setPace cX0_setPace 3 none : Cond) ∈ WL := wk_of (i := 368) (by decide +kernel) (by decide +kernel)
theorem wk_337 : (Cond.methodLink RL 101 yL_tick : Cond) ∈ WL := wk_of (i := 370) (by decide +kernel) (by decide +kernel)
theorem wk_338 : (Cond.static yL_tick : Cond) ∈ WL := wk_of (i := 371) (by decide +kernel) (by decide +kernel)
theorem wk_339 : (Cond.codeWith yL_tick cL_tick 4 (some .int) [(0, 9, 12, 15), (0, 9, 15, 17)] : Cond) ∈ WL := wk_of (i := 372) (by decide +kernel) (by decide +kernel)
theorem wk_340 : (Cond.methodLink RL 38 yX0_tick : Cond) ∈ WL := wk_of (i := 373) (by decide +kernel) (by decide +kernel)
theorem wk_341 : (Cond.instanceMethod yX0_tick : Cond) ∈ WL := wk_of (i := 374) (by decide +kernel) (by decide +kernel)
theorem wk_342 : (Cond.selects RX0 yX0_tick yX0_tick : Cond) ∈ WL := wk_of (i := 375) (by decide +kernel) (by decide +kernel)
theorem wk_343 : (Cond.code yX0_tick cX0_tick 2 (some .int) : Cond) ∈ WL := wk_of (i := 376) (by decide +kernel) (by decide +kernel)
theorem wk_346 : (Cond.methodLink RX0 130 yX0_copyChunk : Cond) ∈ WL := wk_of (i := 379) (by decide +kernel) (by decide +kernel)
theorem wk_348 : (Cond.instanceMethod yX0_copyChunk : Cond) ∈ WL := wk_of (i := 381) (by decide +kernel) (by decide +kernel)
theorem wk_349 : (Cond.code yX0_copyChunk cX0_copyChunk 4 (some .int) : Cond) ∈ WL := wk_of (i := 382) (by decide +kernel) (by decide +kernel)
theorem wk_350 : (Cond.methodLink RX0 137 yX0_playNotes : Cond) ∈ WL := wk_of (i := 383) (by decide +kernel) (by decide +kernel)
theorem wk_352 : (Cond.instanceMethod yX0_playNotes : Cond) ∈ WL := wk_of (i := 385) (by decide +kernel) (by decide +kernel)
theorem wk_353 : (Cond.code yX0_playNotes cX0_playNotes 3 (some .int) : Cond) ∈ WL := wk_of (i := 386) (by decide +kernel) (by decide +kernel)
theorem wk_354 : (Cond.methodLink RX0 196 (⟨"java/lang/System", "arraycopy", "(Ljava/lang/Object;ILjava/lang/Object;II)V"⟩ : MethodName) : Cond) ∈ WL := wk_of (i := 387) (by decide +kernel) (by decide +kernel)
theorem wk_355 : (Cond.static (⟨"java/lang/System", "arraycopy", "(Ljava/lang/Object;ILjava/lang/Object;II)V"⟩ : MethodName) : Cond) ∈ WL := wk_of (i := 388) (by decide +kernel) (by decide +kernel)
theorem wk_356 : (Cond.native (⟨"java/lang/System", "arraycopy", "(Ljava/lang/Object;ILjava/lang/Object;II)V"⟩ : MethodName) : Cond) ∈ WL := wk_of (i := 389) (by decide +kernel) (by decide +kernel)
theorem wk_357 : (Cond.methodLink RL 104 yL_cutOver : Cond) ∈ WL := wk_of (i := 390) (by decide +kernel) (by decide +kernel)
theorem wk_358 : (Cond.static yL_cutOver : Cond) ∈ WL := wk_of (i := 391) (by decide +kernel) (by decide +kernel)
theorem wk_359 : (Cond.codeWith yL_cutOver cL_cutOver 4 (some .int) [(0, 9, 12, 15), (0, 9, 15, 17)] : Cond) ∈ WL := wk_of (i := 392) (by decide +kernel) (by decide +kernel)
theorem wk_360 : (Cond.methodLink RL 41 yX0_cutOver : Cond) ∈ WL := wk_of (i := 393) (by decide +kernel) (by decide +kernel)
theorem wk_361 : (Cond.instanceMethod yX0_cutOver : Cond) ∈ WL := wk_of (i := 394) (by decide +kernel) (by decide +kernel)
theorem wk_362 : (Cond.selects RX0 yX0_cutOver yX0_cutOver : Cond) ∈ WL := wk_of (i := 395) (by decide +kernel) (by decide +kernel)
theorem wk_363 : (Cond.code yX0_cutOver cX0_cutOver 3 (some .int) : Cond) ∈ WL := wk_of (i := 396) (by decide +kernel) (by decide +kernel)
theorem wk_366 : (Cond.methodLink RL 107 yL_undo : Cond) ∈ WL := wk_of (i := 399) (by decide +kernel) (by decide +kernel)
theorem wk_367 : (Cond.static yL_undo : Cond) ∈ WL := wk_of (i := 400) (by decide +kernel) (by decide +kernel)
theorem wk_368 : (Cond.codeWith yL_undo cL_undo 2 (some .int) [(0, 4, 7, 17)] : Cond) ∈ WL := wk_of (i := 401) (by decide +kernel) (by decide +kernel)
theorem wk_369 : (Cond.methodLink RL 44 yX0_undo : Cond) ∈ WL := wk_of (i := 402) (by decide +kernel) (by decide +kernel)
theorem wk_370 : (Cond.instanceMethod yX0_undo : Cond) ∈ WL := wk_of (i := 403) (by decide +kernel) (by decide +kernel)
theorem wk_371 : (Cond.selects RX0 yX0_undo yX0_undo : Cond) ∈ WL := wk_of (i := 404) (by decide +kernel) (by decide +kernel)
theorem wk_372 : (Cond.code yX0_undo cX0_undo 1 none : Cond) ∈ WL := wk_of (i := 405) (by decide +kernel) (by decide +kernel)
theorem wk_374 : (Cond.methodLink RL 111 yL_finish : Cond) ∈ WL := wk_of (i := 407) (by decide +kernel) (by decide +kernel)
theorem wk_375 : (Cond.static yL_finish : Cond) ∈ WL := wk_of (i := 408) (by decide +kernel) (by decide +kernel)
theorem wk_376 : (Cond.codeWith yL_finish cL_finish 3 (some .int) [(0, 8, 11, 17)] : Cond) ∈ WL := wk_of (i := 409) (by decide +kernel) (by decide +kernel)
theorem wk_377 : (Cond.methodLink RL 47 yX0_finish : Cond) ∈ WL := wk_of (i := 410) (by decide +kernel) (by decide +kernel)
theorem wk_378 : (Cond.instanceMethod yX0_finish : Cond) ∈ WL := wk_of (i := 411) (by decide +kernel) (by decide +kernel)
theorem wk_379 : (Cond.selects RX0 yX0_finish yX0_finish : Cond) ∈ WL := wk_of (i := 412) (by decide +kernel) (by decide +kernel)
theorem wk_380 : (Cond.code yX0_finish cX0_finish 2 (some .int) : Cond) ∈ WL := wk_of (i := 413) (by decide +kernel) (by decide +kernel)
theorem wk_381 : (Cond.methodLink RX0 146 yX0_removeRowsWithoutShadow : Cond) ∈ WL := wk_of (i := 414) (by decide +kernel) (by decide +kernel)
theorem wk_383 : (Cond.instanceMethod yX0_removeRowsWithoutShadow : Cond) ∈ WL := wk_of (i := 416) (by decide +kernel) (by decide +kernel)
theorem wk_384 : (Cond.code yX0_removeRowsWithoutShadow cX0_removeRowsWithoutShadow 3 (some .int) : Cond) ∈ WL := wk_of (i := 417) (by decide +kernel) (by decide +kernel)
theorem wk_385 : (Cond.methodLink RX0 149 yX0_endChange : Cond) ∈ WL := wk_of (i := 418) (by decide +kernel) (by decide +kernel)
theorem wk_387 : (Cond.instanceMethod yX0_endChange : Cond) ∈ WL := wk_of (i := 420) (by decide +kernel) (by decide +kernel)
theorem wk_388 : (Cond.code yX0_endChange cX0_endChange 5 none : Cond) ∈ WL := wk_of (i := 421) (by decide +kernel) (by decide +kernel)
theorem wk_389 : (Cond.methodLink RL 115 yL_giveUp : Cond) ∈ WL := wk_of (i := 422) (by decide +kernel) (by decide +kernel)
theorem wk_390 : (Cond.static yL_giveUp : Cond) ∈ WL := wk_of (i := 423) (by decide +kernel) (by decide +kernel)
theorem wk_391 : (Cond.codeWith yL_giveUp cL_giveUp 3 (some .int) [(0, 8, 11, 17)] : Cond) ∈ WL := wk_of (i := 424) (by decide +kernel) (by decide +kernel)
theorem wk_392 : (Cond.methodLink RL 51 yX0_giveUp : Cond) ∈ WL := wk_of (i := 425) (by decide +kernel) (by decide +kernel)
theorem wk_393 : (Cond.instanceMethod yX0_giveUp : Cond) ∈ WL := wk_of (i := 426) (by decide +kernel) (by decide +kernel)
theorem wk_394 : (Cond.selects RX0 yX0_giveUp yX0_giveUp : Cond) ∈ WL := wk_of (i := 427) (by decide +kernel) (by decide +kernel)
theorem wk_395 : (Cond.code yX0_giveUp cX0_giveUp 2 (some .int) : Cond) ∈ WL := wk_of (i := 428) (by decide +kernel) (by decide +kernel)
theorem wk_396 : (Cond.methodLink RX0 152 yX0_shadowRows : Cond) ∈ WL := wk_of (i := 429) (by decide +kernel) (by decide +kernel)
theorem wk_397 : (Cond.methodLink RL 118 yL_row : Cond) ∈ WL := wk_of (i := 430) (by decide +kernel) (by decide +kernel)
theorem wk_398 : (Cond.static yL_row : Cond) ∈ WL := wk_of (i := 431) (by decide +kernel) (by decide +kernel)
theorem wk_399 : (Cond.codeWith yL_row cL_row 4 (some .int) [(0, 9, 12, 13)] : Cond) ∈ WL := wk_of (i := 432) (by decide +kernel) (by decide +kernel)
theorem wk_400 : (Cond.methodLink RL 54 yX0_row : Cond) ∈ WL := wk_of (i := 433) (by decide +kernel) (by decide +kernel)
theorem wk_401 : (Cond.instanceMethod yX0_row : Cond) ∈ WL := wk_of (i := 434) (by decide +kernel) (by decide +kernel)
theorem wk_402 : (Cond.selects RX0 yX0_row yX0_row : Cond) ∈ WL := wk_of (i := 435) (by decide +kernel) (by decide +kernel)
theorem wk_403 : (Cond.code yX0_row cX0_row 2 (some .int) : Cond) ∈ WL := wk_of (i := 436) (by decide +kernel) (by decide +kernel)
theorem wk_404 : (Cond.methodLink RL 137 yL_shadow : Cond) ∈ WL := wk_of (i := 437) (by decide +kernel) (by decide +kernel)
theorem wk_405 : (Cond.static yL_shadow : Cond) ∈ WL := wk_of (i := 438) (by decide +kernel) (by decide +kernel)
theorem wk_406 : (Cond.codeWith yL_shadow cL_shadow 5 (some .int) [(0, 10, 13, 13)] : Cond) ∈ WL := wk_of (i := 439) (by decide +kernel) (by decide +kernel)
theorem wk_407 : (Cond.methodLink RL 57 yX0_shadow : Cond) ∈ WL := wk_of (i := 440) (by decide +kernel) (by decide +kernel)
theorem wk_408 : (Cond.instanceMethod yX0_shadow : Cond) ∈ WL := wk_of (i := 441) (by decide +kernel) (by decide +kernel)
theorem wk_409 : (Cond.selects RX0 yX0_shadow yX0_shadow : Cond) ∈ WL := wk_of (i := 442) (by decide +kernel) (by decide +kernel)
theorem wk_410 : (Cond.code yX0_shadow cX0_shadow 3 (some .int) : Cond) ∈ WL := wk_of (i := 443) (by decide +kernel) (by decide +kernel)
theorem wk_411 : (Cond.methodLink RX0 155 yX0_isColumn : Cond) ∈ WL := wk_of (i := 444) (by decide +kernel) (by decide +kernel)
theorem wk_412 : (Cond.static yX0_isColumn : Cond) ∈ WL := wk_of (i := 445) (by decide +kernel) (by decide +kernel)
theorem wk_413 : (Cond.code yX0_isColumn cX0_isColumn 1 (some .boolean) : Cond) ∈ WL := wk_of (i := 446) (by decide +kernel) (by decide +kernel)
theorem wk_415 : (Cond.methodLink RL 145 yL_isRefused : Cond) ∈ WL := wk_of (i := 448) (by decide +kernel) (by decide +kernel)
theorem wk_416 : (Cond.static yL_isRefused : Cond) ∈ WL := wk_of (i := 449) (by decide +kernel) (by decide +kernel)
theorem wk_417 : (Cond.codeWith yL_isRefused cL_isRefused 4 (some .int) [(0, 16, 19, 13)] : Cond) ∈ WL := wk_of (i := 450) (by decide +kernel) (by decide +kernel)
theorem wk_418 : (Cond.methodLink RL 61 yX0_isRefused : Cond) ∈ WL := wk_of (i := 451) (by decide +kernel) (by decide +kernel)
theorem wk_419 : (Cond.instanceMethod yX0_isRefused : Cond) ∈ WL := wk_of (i := 452) (by decide +kernel) (by decide +kernel)
theorem wk_420 : (Cond.selects RX0 yX0_isRefused yX0_isRefused : Cond) ∈ WL := wk_of (i := 453) (by decide +kernel) (by decide +kernel)
theorem wk_421 : (Cond.code yX0_isRefused cX0_isRefused 2 (some .boolean) : Cond) ∈ WL := wk_of (i := 454) (by decide +kernel) (by decide +kernel)
theorem wk_422 : (Cond.methodLink RL 152 yL_sum : Cond) ∈ WL := wk_of (i := 455) (by decide +kernel) (by decide +kernel)
theorem wk_423 : (Cond.static yL_sum : Cond) ∈ WL := wk_of (i := 456) (by decide +kernel) (by decide +kernel)
theorem wk_424 : (Cond.codeWith yL_sum cL_sum 4 (some .int) [(0, 9, 12, 13)] : Cond) ∈ WL := wk_of (i := 457) (by decide +kernel) (by decide +kernel)
theorem wk_425 : (Cond.methodLink RL 65 yX0_sum : Cond) ∈ WL := wk_of (i := 458) (by decide +kernel) (by decide +kernel)
theorem wk_426 : (Cond.instanceMethod yX0_sum : Cond) ∈ WL := wk_of (i := 459) (by decide +kernel) (by decide +kernel)
theorem wk_427 : (Cond.selects RX0 yX0_sum yX0_sum : Cond) ∈ WL := wk_of (i := 460) (by decide +kernel) (by decide +kernel)
theorem wk_428 : (Cond.code yX0_sum cX0_sum 4 (some .int) : Cond) ∈ WL := wk_of (i := 461) (by decide +kernel) (by decide +kernel)
theorem wk_430 : (Cond.methodLink RL 155 yL_sumAtOnce : Cond) ∈ WL := wk_of (i := 463) (by decide +kernel) (by decide +kernel)
theorem wk_431 : (Cond.static yL_sumAtOnce : Cond) ∈ WL := wk_of (i := 464) (by decide +kernel) (by decide +kernel)
theorem wk_432 : (Cond.codeWith yL_sumAtOnce cL_sumAtOnce 4 (some .int) [(0, 9, 12, 13)] : Cond) ∈ WL := wk_of (i := 465) (by decide +kernel) (by decide +kernel)
theorem wk_433 : (Cond.methodLink RL 68 yX0_sumAtOnce : Cond) ∈ WL := wk_of (i := 466) (by decide +kernel) (by decide +kernel)
theorem wk_434 : (Cond.instanceMethod yX0_sumAtOnce : Cond) ∈ WL := wk_of (i := 467) (by decide +kernel) (by decide +kernel)
theorem wk_435 : (Cond.selects RX0 yX0_sumAtOnce yX0_sumAtOnce : Cond) ∈ WL := wk_of (i := 468) (by decide +kernel) (by decide +kernel)
theorem wk_436 : (Cond.code yX0_sumAtOnce cX0_sumAtOnce 5 (some .int) : Cond) ∈ WL := wk_of (i := 469) (by decide +kernel) (by decide +kernel)
theorem wk_437 : (Cond.classLink RL 72 RX1 : Cond) ∈ WL := wk_of (i := 470) (by decide +kernel) (by decide +kernel)
theorem wk_438 : (Cond.instantiable RX1 13 : Cond) ∈ WL := wk_of (i := 471) (by decide +kernel) (by decide +kernel)
theorem wk_439 : (Cond.methodLink RL 74 yX1_init : Cond) ∈ WL := wk_of (i := 472) (by decide +kernel) (by decide +kernel)
theorem wk_440 : (Cond.instanceMethod yX1_init : Cond) ∈ WL := wk_of (i := 473) (by decide +kernel) (by decide +kernel)
theorem wk_441 : (Cond.code yX1_init cX1_init 2 none : Cond) ∈ WL := wk_of (i := 474) (by decide +kernel) (by decide +kernel)
theorem wk_442 : (Cond.methodLink RX1 1 objectInit : Cond) ∈ WL := wk_of (i := 475) (by decide +kernel) (by decide +kernel)
theorem wk_443 : (Cond.fieldLink RX1 7 "TableChangerModel" "old" "[I" : Cond) ∈ WL := wk_of (i := 476) (by decide +kernel) (by decide +kernel)
theorem wk_444 : (Cond.fieldLink RX1 13 "TableChangerModel" "shadow" "[I" : Cond) ∈ WL := wk_of (i := 477) (by decide +kernel) (by decide +kernel)
theorem wk_445 : (Cond.fieldLink RX1 16 "TableChangerModel" "isShadowed" "[Z" : Cond) ∈ WL := wk_of (i := 478) (by decide +kernel) (by decide +kernel)
theorem wk_446 : (Cond.fieldLink RX1 20 "TableChangerModel" "isOut" "[Z" : Cond) ∈ WL := wk_of (i := 479) (by decide +kernel) (by decide +kernel)
theorem wk_447 : (Cond.fieldLink RX1 58 "TableChangerModel" "phase" "I" : Cond) ∈ WL := wk_of (i := 480) (by decide +kernel) (by decide +kernel)
theorem wk_448 : (Cond.fieldLink RX1 40 "TableChangerModel" "alteration" "I" : Cond) ∈ WL := wk_of (i := 481) (by decide +kernel) (by decide +kernel)
theorem wk_449 : (Cond.fieldLink RX1 43 "TableChangerModel" "parameter" "I" : Cond) ∈ WL := wk_of (i := 482) (by decide +kernel) (by decide +kernel)
theorem wk_450 : (Cond.fieldLink RX1 23 "TableChangerModel" "chunk" "I" : Cond) ∈ WL := wk_of (i := 483) (by decide +kernel) (by decide +kernel)
theorem wk_451 : (Cond.fieldLink RX1 27 "TableChangerModel" "greatest" "I" : Cond) ∈ WL := wk_of (i := 484) (by decide +kernel) (by decide +kernel)
theorem wk_452 : (Cond.fieldLink RX1 88 "TableChangerModel" "mark" "I" : Cond) ∈ WL := wk_of (i := 485) (by decide +kernel) (by decide +kernel)
theorem wk_453 : (Cond.fieldLink RX1 61 "TableChangerModel" "notes" "I" : Cond) ∈ WL := wk_of (i := 486) (by decide +kernel) (by decide +kernel)
theorem wk_454 : (Cond.fieldLink RX1 30 "TableChangerModel" "noted" "[I" : Cond) ∈ WL := wk_of (i := 487) (by decide +kernel) (by decide +kernel)
theorem wk_455 : (Cond.fieldLink RX1 33 "TableChangerModel" "thrown" "I" : Cond) ∈ WL := wk_of (i := 488) (by decide +kernel) (by decide +kernel)
theorem wk_483 : (Cond.methodLink RL 81 yX1_thrown : Cond) ∈ WL := wk_of (i := 516) (by decide +kernel) (by decide +kernel)
theorem wk_484 : (Cond.instanceMethod yX1_thrown : Cond) ∈ WL := wk_of (i := 517) (by decide +kernel) (by decide +kernel)
theorem wk_485 : (Cond.selects RX1 yX1_thrown yX1_thrown : Cond) ∈ WL := wk_of (i := 518) (by decide +kernel) (by decide +kernel)
theorem wk_486 : (Cond.code yX1_thrown cX1_thrown 1 (some .int) : Cond) ∈ WL := wk_of (i := 519) (by decide +kernel) (by decide +kernel)
theorem wk_487 : (Cond.methodLink RL 80 yX1_insert : Cond) ∈ WL := wk_of (i := 520) (by decide +kernel) (by decide +kernel)
theorem wk_488 : (Cond.instanceMethod yX1_insert : Cond) ∈ WL := wk_of (i := 521) (by decide +kernel) (by decide +kernel)
theorem wk_489 : (Cond.selects RX1 yX1_insert yX1_insert : Cond) ∈ WL := wk_of (i := 522) (by decide +kernel) (by decide +kernel)
theorem wk_490 : (Cond.code yX1_insert cX1_insert 5 none : Cond) ∈ WL := wk_of (i := 523) (by decide +kernel) (by decide +kernel)
theorem wk_491 : (Cond.methodLink RX1 74 yX1_faultOf : Cond) ∈ WL := wk_of (i := 524) (by decide +kernel) (by decide +kernel)
theorem wk_493 : (Cond.instanceMethod yX1_faultOf : Cond) ∈ WL := wk_of (i := 526) (by decide +kernel) (by decide +kernel)
theorem wk_494 : (Cond.code yX1_faultOf cX1_faultOf 5 (some .int) : Cond) ∈ WL := wk_of (i := 527) (by decide +kernel) (by decide +kernel)
theorem wk_495 : (Cond.methodLink RX1 36 yX1_isIn : Cond) ∈ WL := wk_of (i := 528) (by decide +kernel) (by decide +kernel)
theorem wk_496 : (Cond.static yX1_isIn : Cond) ∈ WL := wk_of (i := 529) (by decide +kernel) (by decide +kernel)
theorem wk_497 : (Cond.code yX1_isIn cX1_isIn 3 (some .boolean) : Cond) ∈ WL := wk_of (i := 530) (by decide +kernel) (by decide +kernel)
theorem wk_498 : (Cond.methodLink RX1 68 yX1_isKey : Cond) ∈ WL := wk_of (i := 531) (by decide +kernel) (by decide +kernel)
theorem wk_499 : (Cond.static yX1_isKey : Cond) ∈ WL := wk_of (i := 532) (by decide +kernel) (by decide +kernel)
theorem wk_500 : (Cond.code yX1_isKey cX1_isKey 1 (some .boolean) : Cond) ∈ WL := wk_of (i := 533) (by decide +kernel) (by decide +kernel)
theorem wk_501 : (Cond.methodLink RX1 50 yX1_suits : Cond) ∈ WL := wk_of (i := 534) (by decide +kernel) (by decide +kernel)
theorem wk_503 : (Cond.instanceMethod yX1_suits : Cond) ∈ WL := wk_of (i := 536) (by decide +kernel) (by decide +kernel)
theorem wk_504 : (Cond.code yX1_suits cX1_suits 2 (some .boolean) : Cond) ∈ WL := wk_of (i := 537) (by decide +kernel) (by decide +kernel)
theorem wk_505 : (Cond.methodLink RX1 78 yX1_isSeen : Cond) ∈ WL := wk_of (i := 538) (by decide +kernel) (by decide +kernel)
theorem wk_507 : (Cond.instanceMethod yX1_isSeen : Cond) ∈ WL := wk_of (i := 540) (by decide +kernel) (by decide +kernel)
theorem wk_508 : (Cond.code yX1_isSeen cX1_isSeen 2 (some .boolean) : Cond) ∈ WL := wk_of (i := 541) (by decide +kernel) (by decide +kernel)
theorem wk_509 : (Cond.methodLink RX1 81 yX1_can : Cond) ∈ WL := wk_of (i := 542) (by decide +kernel) (by decide +kernel)
theorem wk_511 : (Cond.instanceMethod yX1_can : Cond) ∈ WL := wk_of (i := 544) (by decide +kernel) (by decide +kernel)
theorem wk_512 : (Cond.code yX1_can cX1_can 2 (some .boolean) : Cond) ∈ WL := wk_of (i := 545) (by decide +kernel) (by decide +kernel)
theorem wk_513 : (Cond.methodLink RX1 84 yX1_writes : Cond) ∈ WL := wk_of (i := 546) (by decide +kernel) (by decide +kernel)
theorem wk_515 : (Cond.instanceMethod yX1_writes : Cond) ∈ WL := wk_of (i := 548) (by decide +kernel) (by decide +kernel)
theorem wk_516 : (Cond.code yX1_writes cX1_writes 3 none : Cond) ∈ WL := wk_of (i := 549) (by decide +kernel) (by decide +kernel)
theorem wk_517 : (Cond.methodLink RX1 71 yX1_wrote : Cond) ∈ WL := wk_of (i := 550) (by decide +kernel) (by decide +kernel)
theorem wk_519 : (Cond.instanceMethod yX1_wrote : Cond) ∈ WL := wk_of (i := 552) (by decide +kernel) (by decide +kernel)
theorem wk_520 : (Cond.code yX1_wrote cX1_wrote 2 none : Cond) ∈ WL := wk_of (i := 553) (by decide +kernel) (by decide +kernel)
theorem wk_521 : (Cond.methodLink RX1 64 yX1_brings : Cond) ∈ WL := wk_of (i := 554) (by decide +kernel) (by decide +kernel)
theorem wk_523 : (Cond.instanceMethod yX1_brings : Cond) ∈ WL := wk_of (i := 556) (by decide +kernel) (by decide +kernel)
theorem wk_524 : (Cond.code yX1_brings cX1_brings 3 none : Cond) ∈ WL := wk_of (i := 557) (by decide +kernel) (by decide +kernel)
theorem wk_525 : (Cond.methodLink RX1 54 yX1_altered : Cond) ∈ WL := wk_of (i := 558) (by decide +kernel) (by decide +kernel)
theorem wk_527 : (Cond.instanceMethod yX1_altered : Cond) ∈ WL := wk_of (i := 560) (by decide +kernel) (by decide +kernel)
theorem wk_528 : (Cond.code yX1_altered cX1_altered 5 (some .int) : Cond) ∈ WL := wk_of (i := 561) (by decide +kernel) (by decide +kernel)
theorem wk_529 : (Cond.methodLink RX1 46 yX1_digits : Cond) ∈ WL := wk_of (i := 562) (by decide +kernel) (by decide +kernel)
theorem wk_530 : (Cond.static yX1_digits : Cond) ∈ WL := wk_of (i := 563) (by decide +kernel) (by decide +kernel)
theorem wk_531 : (Cond.code yX1_digits cX1_digits 1 (some .int) : Cond) ∈ WL := wk_of (i := 564) (by decide +kernel) (by decide +kernel)
theorem wk_532 : (Cond.methodLink RL 86 yX1_update : Cond) ∈ WL := wk_of (i := 565) (by decide +kernel) (by decide +kernel)
theorem wk_533 : (Cond.instanceMethod yX1_update : Cond) ∈ WL := wk_of (i := 566) (by decide +kernel) (by decide +kernel)
theorem wk_534 : (Cond.selects RX1 yX1_update yX1_update : Cond) ∈ WL := wk_of (i := 567) (by decide +kernel) (by decide +kernel)
theorem wk_535 : (Cond.code yX1_update cX1_update 5 none : Cond) ∈ WL := wk_of (i := 568) (by decide +kernel) (by decide +kernel)
theorem wk_536 : (Cond.methodLink RL 90 yX1_delete : Cond) ∈ WL := wk_of (i := 569) (by decide +kernel) (by decide +kernel)
theorem wk_537 : (Cond.instanceMethod yX1_delete : Cond) ∈ WL := wk_of (i := 570) (by decide +kernel) (by decide +kernel)
theorem wk_538 : (Cond.selects RX1 yX1_delete yX1_delete : Cond) ∈ WL := wk_of (i := 571) (by decide +kernel) (by decide +kernel)
theorem wk_539 : (Cond.code yX1_delete cX1_delete 3 (some .int) : Cond) ∈ WL := wk_of (i := 572) (by decide +kernel) (by decide +kernel)
theorem wk_540 : (Cond.methodLink RL 94 yX1_rekey : Cond) ∈ WL := wk_of (i := 573) (by decide +kernel) (by decide +kernel)
theorem wk_541 : (Cond.instanceMethod yX1_rekey : Cond) ∈ WL := wk_of (i := 574) (by decide +kernel) (by decide +kernel)
theorem wk_542 : (Cond.selects RX1 yX1_rekey yX1_rekey : Cond) ∈ WL := wk_of (i := 575) (by decide +kernel) (by decide +kernel)
theorem wk_543 : (Cond.code yX1_rekey cX1_rekey 4 none : Cond) ∈ WL := wk_of (i := 576) (by decide +kernel) (by decide +kernel)
theorem wk_544 : (Cond.methodLink RL 97 yX1_start : Cond) ∈ WL := wk_of (i := 577) (by decide +kernel) (by decide +kernel)
theorem wk_545 : (Cond.instanceMethod yX1_start : Cond) ∈ WL := wk_of (i := 578) (by decide +kernel) (by decide +kernel)
theorem wk_546 : (Cond.selects RX1 yX1_start yX1_start : Cond) ∈ WL := wk_of (i := 579) (by decide +kernel) (by decide +kernel)
theorem wk_547 : (Cond.code yX1_start cX1_start 4 none : Cond) ∈ WL := wk_of (i := 580) (by decide +kernel) (by decide +kernel)
theorem wk_548 : (Cond.methodLink RX1 91 yX1_clears : Cond) ∈ WL := wk_of (i := 581) (by decide +kernel) (by decide +kernel)
theorem wk_550 : (Cond.instanceMethod yX1_clears : Cond) ∈ WL := wk_of (i := 583) (by decide +kernel) (by decide +kernel)
theorem wk_551 : (Cond.code yX1_clears cX1_clears 2 none : Cond) ∈ WL := wk_of (i := 584) (by decide +kernel) (by decide +kernel)
theorem wk_552 : (Cond.methodLink RL 100 yX1_setPace : Cond) ∈ WL := wk_of (i := 585) (by decide +kernel) (by decide +kernel)
theorem wk_553 : (Cond.instanceMethod yX1_setPace : Cond) ∈ WL := wk_of (i := 586) (by decide +kernel) (by decide +kernel)
theorem wk_554 : (Cond.selects RX1 yX1_setPace yX1_setPace : Cond) ∈ WL := wk_of (i := 587) (by decide +kernel) (by decide +kernel)
theorem wk_555 : (Cond.code yX1_setPace cX1_setPace 3 none : Cond) ∈ WL := wk_of (i := 588) (by decide +kernel) (by decide +kernel)
theorem wk_556 : (Cond.methodLink RL 103 yX1_tick : Cond) ∈ WL := wk_of (i := 589) (by decide +kernel) (by decide +kernel)
theorem wk_557 : (Cond.instanceMethod yX1_tick : Cond) ∈ WL := wk_of (i := 590) (by decide +kernel) (by decide +kernel)
theorem wk_558 : (Cond.selects RX1 yX1_tick yX1_tick : Cond) ∈ WL := wk_of (i := 591) (by decide +kernel) (by decide +kernel)
theorem wk_559 : (Cond.code yX1_tick cX1_tick 5 (some .int) : Cond) ∈ WL := wk_of (i := 592) (by decide +kernel) (by decide +kernel)
theorem wk_560 : (Cond.methodLink RX1 94 yX1_plays : Cond) ∈ WL := wk_of (i := 593) (by decide +kernel) (by decide +kernel)
theorem wk_562 : (Cond.instanceMethod yX1_plays : Cond) ∈ WL := wk_of (i := 595) (by decide +kernel) (by decide +kernel)
theorem wk_563 : (Cond.code yX1_plays cX1_plays 3 none : Cond) ∈ WL := wk_of (i := 596) (by decide +kernel) (by decide +kernel)
theorem wk_564 : (Cond.methodLink RL 106 yX1_cutOver : Cond) ∈ WL := wk_of (i := 597) (by decide +kernel) (by decide +kernel)
theorem wk_565 : (Cond.instanceMethod yX1_cutOver : Cond) ∈ WL := wk_of (i := 598) (by decide +kernel) (by decide +kernel)
theorem wk_566 : (Cond.selects RX1 yX1_cutOver yX1_cutOver : Cond) ∈ WL := wk_of (i := 599) (by decide +kernel) (by decide +kernel)
theorem wk_567 : (Cond.code yX1_cutOver cX1_cutOver 3 (some .int) : Cond) ∈ WL := wk_of (i := 600) (by decide +kernel) (by decide +kernel)
theorem wk_568 : (Cond.methodLink RL 110 yX1_undo : Cond) ∈ WL := wk_of (i := 601) (by decide +kernel) (by decide +kernel)
theorem wk_569 : (Cond.instanceMethod yX1_undo : Cond) ∈ WL := wk_of (i := 602) (by decide +kernel) (by decide +kernel)
theorem wk_570 : (Cond.selects RX1 yX1_undo yX1_undo : Cond) ∈ WL := wk_of (i := 603) (by decide +kernel) (by decide +kernel)
theorem wk_571 : (Cond.code yX1_undo cX1_undo 1 none : Cond) ∈ WL := wk_of (i := 604) (by decide +kernel) (by decide +kernel)
theorem wk_572 : (Cond.methodLink RL 114 yX1_finish : Cond) ∈ WL := wk_of (i := 605) (by decide +kernel) (by decide +kernel)
theorem wk_573 : (Cond.instanceMethod yX1_finish : Cond) ∈ WL := wk_of (i := 606) (by decide +kernel) (by decide +kernel)
theorem wk_574 : (Cond.selects RX1 yX1_finish yX1_finish : Cond) ∈ WL := wk_of (i := 607) (by decide +kernel) (by decide +kernel)
theorem wk_575 : (Cond.code yX1_finish cX1_finish 3 (some .int) : Cond) ∈ WL := wk_of (i := 608) (by decide +kernel) (by decide +kernel)
theorem wk_576 : (Cond.methodLink RL 117 yX1_giveUp : Cond) ∈ WL := wk_of (i := 609) (by decide +kernel) (by decide +kernel)
theorem wk_577 : (Cond.instanceMethod yX1_giveUp : Cond) ∈ WL := wk_of (i := 610) (by decide +kernel) (by decide +kernel)
theorem wk_578 : (Cond.selects RX1 yX1_giveUp yX1_giveUp : Cond) ∈ WL := wk_of (i := 611) (by decide +kernel) (by decide +kernel)
theorem wk_579 : (Cond.code yX1_giveUp cX1_giveUp 2 (some .int) : Cond) ∈ WL := wk_of (i := 612) (by decide +kernel) (by decide +kernel)
theorem wk_580 : (Cond.methodLink RX1 97 yX1_shadowed : Cond) ∈ WL := wk_of (i := 613) (by decide +kernel) (by decide +kernel)
theorem wk_582 : (Cond.instanceMethod yX1_shadowed : Cond) ∈ WL := wk_of (i := 615) (by decide +kernel) (by decide +kernel)
theorem wk_583 : (Cond.code yX1_shadowed cX1_shadowed 3 (some .int) : Cond) ∈ WL := wk_of (i := 616) (by decide +kernel) (by decide +kernel)
theorem wk_584 : (Cond.methodLink RL 120 yX1_row : Cond) ∈ WL := wk_of (i := 617) (by decide +kernel) (by decide +kernel)
theorem wk_585 : (Cond.instanceMethod yX1_row : Cond) ∈ WL := wk_of (i := 618) (by decide +kernel) (by decide +kernel)
theorem wk_586 : (Cond.selects RX1 yX1_row yX1_row : Cond) ∈ WL := wk_of (i := 619) (by decide +kernel) (by decide +kernel)
theorem wk_587 : (Cond.code yX1_row cX1_row 2 (some .int) : Cond) ∈ WL := wk_of (i := 620) (by decide +kernel) (by decide +kernel)
theorem wk_588 : (Cond.methodLink RL 124 yX1_rows : Cond) ∈ WL := wk_of (i := 621) (by decide +kernel) (by decide +kernel)
theorem wk_589 : (Cond.instanceMethod yX1_rows : Cond) ∈ WL := wk_of (i := 622) (by decide +kernel) (by decide +kernel)
theorem wk_590 : (Cond.selects RX1 yX1_rows yX1_rows : Cond) ∈ WL := wk_of (i := 623) (by decide +kernel) (by decide +kernel)
theorem wk_591 : (Cond.code yX1_rows cX1_rows 3 (some .int) : Cond) ∈ WL := wk_of (i := 624) (by decide +kernel) (by decide +kernel)
theorem wk_592 : (Cond.methodLink RL 128 yX1_phase : Cond) ∈ WL := wk_of (i := 625) (by decide +kernel) (by decide +kernel)
theorem wk_593 : (Cond.instanceMethod yX1_phase : Cond) ∈ WL := wk_of (i := 626) (by decide +kernel) (by decide +kernel)
theorem wk_594 : (Cond.selects RX1 yX1_phase yX1_phase : Cond) ∈ WL := wk_of (i := 627) (by decide +kernel) (by decide +kernel)
theorem wk_595 : (Cond.code yX1_phase cX1_phase 1 (some .int) : Cond) ∈ WL := wk_of (i := 628) (by decide +kernel) (by decide +kernel)
theorem wk_596 : (Cond.methodLink RL 132 yX1_mark : Cond) ∈ WL := wk_of (i := 629) (by decide +kernel) (by decide +kernel)
theorem wk_597 : (Cond.instanceMethod yX1_mark : Cond) ∈ WL := wk_of (i := 630) (by decide +kernel) (by decide +kernel)
theorem wk_598 : (Cond.selects RX1 yX1_mark yX1_mark : Cond) ∈ WL := wk_of (i := 631) (by decide +kernel) (by decide +kernel)
theorem wk_599 : (Cond.code yX1_mark cX1_mark 1 (some .int) : Cond) ∈ WL := wk_of (i := 632) (by decide +kernel) (by decide +kernel)
theorem wk_600 : (Cond.methodLink RL 136 yX1_notes : Cond) ∈ WL := wk_of (i := 633) (by decide +kernel) (by decide +kernel)
theorem wk_601 : (Cond.instanceMethod yX1_notes : Cond) ∈ WL := wk_of (i := 634) (by decide +kernel) (by decide +kernel)
theorem wk_602 : (Cond.selects RX1 yX1_notes yX1_notes : Cond) ∈ WL := wk_of (i := 635) (by decide +kernel) (by decide +kernel)
theorem wk_603 : (Cond.code yX1_notes cX1_notes 1 (some .int) : Cond) ∈ WL := wk_of (i := 636) (by decide +kernel) (by decide +kernel)
theorem wk_604 : (Cond.methodLink RL 140 yX1_shadow : Cond) ∈ WL := wk_of (i := 637) (by decide +kernel) (by decide +kernel)
theorem wk_605 : (Cond.instanceMethod yX1_shadow : Cond) ∈ WL := wk_of (i := 638) (by decide +kernel) (by decide +kernel)
theorem wk_606 : (Cond.selects RX1 yX1_shadow yX1_shadow : Cond) ∈ WL := wk_of (i := 639) (by decide +kernel) (by decide +kernel)
theorem wk_607 : (Cond.code yX1_shadow cX1_shadow 3 (some .int) : Cond) ∈ WL := wk_of (i := 640) (by decide +kernel) (by decide +kernel)
theorem wk_608 : (Cond.methodLink RX1 101 yX1_isColumn : Cond) ∈ WL := wk_of (i := 641) (by decide +kernel) (by decide +kernel)
theorem wk_609 : (Cond.static yX1_isColumn : Cond) ∈ WL := wk_of (i := 642) (by decide +kernel) (by decide +kernel)
theorem wk_610 : (Cond.code yX1_isColumn cX1_isColumn 1 (some .boolean) : Cond) ∈ WL := wk_of (i := 643) (by decide +kernel) (by decide +kernel)
theorem wk_611 : (Cond.methodLink RL 144 yX1_shadowRows : Cond) ∈ WL := wk_of (i := 644) (by decide +kernel) (by decide +kernel)
theorem wk_612 : (Cond.instanceMethod yX1_shadowRows : Cond) ∈ WL := wk_of (i := 645) (by decide +kernel) (by decide +kernel)
theorem wk_613 : (Cond.selects RX1 yX1_shadowRows yX1_shadowRows : Cond) ∈ WL := wk_of (i := 646) (by decide +kernel) (by decide +kernel)
theorem wk_614 : (Cond.code yX1_shadowRows cX1_shadowRows 1 (some .int) : Cond) ∈ WL := wk_of (i := 647) (by decide +kernel) (by decide +kernel)
theorem wk_615 : (Cond.methodLink RL 147 yX1_isRefused : Cond) ∈ WL := wk_of (i := 648) (by decide +kernel) (by decide +kernel)
theorem wk_616 : (Cond.instanceMethod yX1_isRefused : Cond) ∈ WL := wk_of (i := 649) (by decide +kernel) (by decide +kernel)
theorem wk_617 : (Cond.selects RX1 yX1_isRefused yX1_isRefused : Cond) ∈ WL := wk_of (i := 650) (by decide +kernel) (by decide +kernel)
theorem wk_618 : (Cond.code yX1_isRefused cX1_isRefused 2 (some .boolean) : Cond) ∈ WL := wk_of (i := 651) (by decide +kernel) (by decide +kernel)
theorem wk_619 : (Cond.methodLink RL 151 yX1_behind : Cond) ∈ WL := wk_of (i := 652) (by decide +kernel) (by decide +kernel)
theorem wk_620 : (Cond.instanceMethod yX1_behind : Cond) ∈ WL := wk_of (i := 653) (by decide +kernel) (by decide +kernel)
theorem wk_621 : (Cond.selects RX1 yX1_behind yX1_behind : Cond) ∈ WL := wk_of (i := 654) (by decide +kernel) (by decide +kernel)
theorem wk_622 : (Cond.code yX1_behind cX1_behind 3 (some .int) : Cond) ∈ WL := wk_of (i := 655) (by decide +kernel) (by decide +kernel)
theorem wk_623 : (Cond.methodLink RX1 104 yX1_isEven : Cond) ∈ WL := wk_of (i := 656) (by decide +kernel) (by decide +kernel)
theorem wk_625 : (Cond.instanceMethod yX1_isEven : Cond) ∈ WL := wk_of (i := 658) (by decide +kernel) (by decide +kernel)
theorem wk_626 : (Cond.code yX1_isEven cX1_isEven 5 (some .boolean) : Cond) ∈ WL := wk_of (i := 659) (by decide +kernel) (by decide +kernel)
theorem wk_627 : (Cond.methodLink RL 154 yX1_sum : Cond) ∈ WL := wk_of (i := 660) (by decide +kernel) (by decide +kernel)
theorem wk_628 : (Cond.instanceMethod yX1_sum : Cond) ∈ WL := wk_of (i := 661) (by decide +kernel) (by decide +kernel)
theorem wk_629 : (Cond.selects RX1 yX1_sum yX1_sum : Cond) ∈ WL := wk_of (i := 662) (by decide +kernel) (by decide +kernel)
theorem wk_630 : (Cond.code yX1_sum cX1_sum 4 (some .int) : Cond) ∈ WL := wk_of (i := 663) (by decide +kernel) (by decide +kernel)
theorem wk_631 : (Cond.methodLink RL 157 yX1_sumAtOnce : Cond) ∈ WL := wk_of (i := 664) (by decide +kernel) (by decide +kernel)
theorem wk_632 : (Cond.instanceMethod yX1_sumAtOnce : Cond) ∈ WL := wk_of (i := 665) (by decide +kernel) (by decide +kernel)
theorem wk_633 : (Cond.selects RX1 yX1_sumAtOnce yX1_sumAtOnce : Cond) ∈ WL := wk_of (i := 666) (by decide +kernel) (by decide +kernel)
theorem wk_634 : (Cond.code yX1_sumAtOnce cX1_sumAtOnce 4 (some .int) : Cond) ∈ WL := wk_of (i := 667) (by decide +kernel) (by decide +kernel)
theorem wk_635 : (Cond.arrayClass .long : Cond) ∈ WL := wk_of (i := 668) (by decide +kernel) (by decide +kernel)
theorem wq_0 : (Cond.selects RX0 yX0_isSeen yX0_isSeen : Cond) ∈ WL := wk_of (i := 0) (by decide +kernel) (by decide +kernel)
theorem wq_1 : (Cond.selects RX0 yX0_isInOld yX0_isInOld : Cond) ∈ WL := wk_of (i := 1) (by decide +kernel) (by decide +kernel)
theorem wq_2 : (Cond.selects RX0 yX0_isInShadow yX0_isInShadow : Cond) ∈ WL := wk_of (i := 2) (by decide +kernel) (by decide +kernel)
theorem wq_3 : (Cond.selects RX0 yX0_isBehind yX0_isBehind : Cond) ∈ WL := wk_of (i := 3) (by decide +kernel) (by decide +kernel)
theorem wq_4 : (Cond.selects RX0 yX0_broughtColumn yX0_broughtColumn : Cond) ∈ WL := wk_of (i := 4) (by decide +kernel) (by decide +kernel)
theorem wq_5 : (Cond.selects RX0 yX0_fits yX0_fits : Cond) ∈ WL := wk_of (i := 5) (by decide +kernel) (by decide +kernel)
theorem wq_6 : (Cond.selects RX0 yX0_alteredColumn yX0_alteredColumn : Cond) ∈ WL := wk_of (i := 6) (by decide +kernel) (by decide +kernel)
theorem wq_7 : (Cond.selects RX0 yX0_alteredMiddle yX0_alteredMiddle : Cond) ∈ WL := wk_of (i := 7) (by decide +kernel) (by decide +kernel)
theorem wq_8 : (Cond.selects RX0 yX0_alteredLast yX0_alteredLast : Cond) ∈ WL := wk_of (i := 8) (by decide +kernel) (by decide +kernel)
theorem wq_9 : (Cond.selects "java/lang/Throwable" (⟨"java/lang/Throwable", "fillInStackTrace", "(I)Ljava/lang/Throwable;"⟩ : MethodName) (⟨"java/lang/Throwable", "fillInStackTrace", "(I)Ljava/lang/Throwable;"⟩ : MethodName) : Cond) ∈ WL := wk_of (i := 9) (by decide +kernel) (by decide +kernel)
theorem wq_10 : (Cond.selects RX0 yX0_canBeWritten yX0_canBeWritten : Cond) ∈ WL := wk_of (i := 10) (by decide +kernel) (by decide +kernel)
theorem wq_11 : (Cond.selects RX0 yX0_putRow yX0_putRow : Cond) ∈ WL := wk_of (i := 11) (by decide +kernel) (by decide +kernel)
theorem wq_12 : (Cond.selects RX0 yX0_followWrite yX0_followWrite : Cond) ∈ WL := wk_of (i := 12) (by decide +kernel) (by decide +kernel)
theorem wq_13 : (Cond.selects RX0 yX0_noteKey yX0_noteKey : Cond) ∈ WL := wk_of (i := 13) (by decide +kernel) (by decide +kernel)
theorem wq_14 : (Cond.selects RX0 yX0_bring yX0_bring : Cond) ∈ WL := wk_of (i := 14) (by decide +kernel) (by decide +kernel)
theorem wq_15 : (Cond.selects RX0 yX0_rowAsNumber yX0_rowAsNumber : Cond) ∈ WL := wk_of (i := 15) (by decide +kernel) (by decide +kernel)
theorem wq_16 : (Cond.selects RX0 yX0_removeRow yX0_removeRow : Cond) ∈ WL := wk_of (i := 16) (by decide +kernel) (by decide +kernel)
theorem wq_17 : (Cond.selects RX0 yX0_copyChunk yX0_copyChunk : Cond) ∈ WL := wk_of (i := 17) (by decide +kernel) (by decide +kernel)
theorem wq_18 : (Cond.selects RX0 yX0_playNotes yX0_playNotes : Cond) ∈ WL := wk_of (i := 18) (by decide +kernel) (by decide +kernel)
theorem wq_19 : (Cond.selects RX0 yX0_removeRowsWithoutShadow yX0_removeRowsWithoutShadow : Cond) ∈ WL := wk_of (i := 19) (by decide +kernel) (by decide +kernel)
theorem wq_20 : (Cond.selects RX0 yX0_endChange yX0_endChange : Cond) ∈ WL := wk_of (i := 20) (by decide +kernel) (by decide +kernel)
theorem wq_21 : (Cond.selects RX1 yX1_faultOf yX1_faultOf : Cond) ∈ WL := wk_of (i := 21) (by decide +kernel) (by decide +kernel)
theorem wq_22 : (Cond.selects RX1 yX1_suits yX1_suits : Cond) ∈ WL := wk_of (i := 22) (by decide +kernel) (by decide +kernel)
theorem wq_23 : (Cond.selects RX1 yX1_isSeen yX1_isSeen : Cond) ∈ WL := wk_of (i := 23) (by decide +kernel) (by decide +kernel)
theorem wq_24 : (Cond.selects RX1 yX1_can yX1_can : Cond) ∈ WL := wk_of (i := 24) (by decide +kernel) (by decide +kernel)
theorem wq_25 : (Cond.selects RX1 yX1_writes yX1_writes : Cond) ∈ WL := wk_of (i := 25) (by decide +kernel) (by decide +kernel)
theorem wq_26 : (Cond.selects RX1 yX1_wrote yX1_wrote : Cond) ∈ WL := wk_of (i := 26) (by decide +kernel) (by decide +kernel)
theorem wq_27 : (Cond.selects RX1 yX1_brings yX1_brings : Cond) ∈ WL := wk_of (i := 27) (by decide +kernel) (by decide +kernel)
theorem wq_28 : (Cond.selects RX1 yX1_altered yX1_altered : Cond) ∈ WL := wk_of (i := 28) (by decide +kernel) (by decide +kernel)
theorem wq_29 : (Cond.selects RX1 yX1_clears yX1_clears : Cond) ∈ WL := wk_of (i := 29) (by decide +kernel) (by decide +kernel)
theorem wq_30 : (Cond.selects RX1 yX1_plays yX1_plays : Cond) ∈ WL := wk_of (i := 30) (by decide +kernel) (by decide +kernel)
theorem wq_31 : (Cond.selects RX1 yX1_shadowed yX1_shadowed : Cond) ∈ WL := wk_of (i := 31) (by decide +kernel) (by decide +kernel)
theorem wq_32 : (Cond.selects RX1 yX1_isEven yX1_isEven : Cond) ∈ WL := wk_of (i := 32) (by decide +kernel) (by decide +kernel)
end
section
theorem dX0_init_0 : decode cX0_init 0 = .ok (.aload_n 0, 1) := by decide +kernel
theorem dX0_init_1 : decode cX0_init 1 = .ok (.invokespecial 1, 3) := by decide +kernel
theorem dX0_init_4 : decode cX0_init 4 = .ok (.aload_n 0, 1) := by decide +kernel
theorem dX0_init_5 : decode cX0_init 5 = .ok (.bipush 40, 2) := by decide +kernel
theorem dX0_init_7 : decode cX0_init 7 = .ok (.newarray .int, 2) := by decide +kernel
theorem dX0_init_9 : decode cX0_init 9 = .ok (.putfield 9, 3) := by decide +kernel
theorem dX0_init_12 : decode cX0_init 12 = .ok (.aload_n 0, 1) := by decide +kernel
theorem dX0_init_13 : decode cX0_init 13 = .ok (.bipush 40, 2) := by decide +kernel
theorem dX0_init_15 : decode cX0_init 15 = .ok (.newarray .int, 2) := by decide +kernel
theorem dX0_init_17 : decode cX0_init 17 = .ok (.putfield 13, 3) := by decide +kernel
theorem dX0_init_20 : decode cX0_init 20 = .ok (.aload_n 0, 1) := by decide +kernel
theorem dX0_init_21 : decode cX0_init 21 = .ok (.iconst 3, 1) := by decide +kernel
theorem dX0_init_22 : decode cX0_init 22 = .ok (.bipush 40, 2) := by decide +kernel
theorem dX0_init_24 : decode cX0_init 24 = .ok (.multianewarray 16 2, 4) := by decide +kernel
theorem dX0_init_28 : decode cX0_init 28 = .ok (.putfield 18, 3) := by decide +kernel
theorem dX0_init_31 : decode cX0_init 31 = .ok (.aload_n 0, 1) := by decide +kernel
theorem dX0_init_32 : decode cX0_init 32 = .ok (.bipush 40, 2) := by decide +kernel
theorem dX0_init_34 : decode cX0_init 34 = .ok (.newarray .boolean, 2) := by decide +kernel
theorem dX0_init_36 : decode cX0_init 36 = .ok (.putfield 21, 3) := by decide +kernel
theorem dX0_init_39 : decode cX0_init 39 = .ok (.aload_n 0, 1) := by decide +kernel
theorem dX0_init_40 : decode cX0_init 40 = .ok (.sipush 1024, 3) := by decide +kernel
theorem dX0_init_43 : decode cX0_init 43 = .ok (.newarray .int, 2) := by decide +kernel
theorem dX0_init_45 : decode cX0_init 45 = .ok (.putfield 25, 3) := by decide +kernel
theorem dX0_init_48 : decode cX0_init 48 = .ok (.aload_n 0, 1) := by decide +kernel
theorem dX0_init_49 : decode cX0_init 49 = .ok (.getfield 9, 3) := by decide +kernel
theorem dX0_init_52 : decode cX0_init 52 = .ok (.iconst (-1), 1) := by decide +kernel
theorem dX0_init_53 : decode cX0_init 53 = .ok (.invokestatic 28, 3) := by decide +kernel
theorem dX0_init_56 : decode cX0_init 56 = .ok (.aload_n 0, 1) := by decide +kernel
theorem dX0_init_57 : decode cX0_init 57 = .ok (.getfield 18, 3) := by decide +kernel
theorem dX0_init_60 : decode cX0_init 60 = .ok (.astore_n 1, 1) := by decide +kernel
theorem dX0_init_61 : decode cX0_init 61 = .ok (.aload_n 1, 1) := by decide +kernel
theorem dX0_init_62 : decode cX0_init 62 = .ok (.arraylength, 1) := by decide +kernel
theorem dX0_init_63 : decode cX0_init 63 = .ok (.istore_n 2, 1) := by decide +kernel
theorem dX0_init_64 : decode cX0_init 64 = .ok (.iconst 0, 1) := by decide +kernel
theorem dX0_init_65 : decode cX0_init 65 = .ok (.istore_n 3, 1) := by decide +kernel
theorem dX0_init_66 : decode cX0_init 66 = .ok (.iload_n 3, 1) := by decide +kernel
theorem dX0_init_67 : decode cX0_init 67 = .ok (.iload_n 2, 1) := by decide +kernel
theorem dX0_init_68 : decode cX0_init 68 = .ok (.if_icmp .ge 20, 3) := by decide +kernel
theorem dX0_init_71 : decode cX0_init 71 = .ok (.aload_n 1, 1) := by decide +kernel
theorem dX0_init_72 : decode cX0_init 72 = .ok (.iload_n 3, 1) := by decide +kernel
theorem dX0_init_73 : decode cX0_init 73 = .ok (.aaload, 1) := by decide +kernel
theorem dX0_init_74 : decode cX0_init 74 = .ok (.astore 4, 2) := by decide +kernel
theorem dX0_init_76 : decode cX0_init 76 = .ok (.aload 4, 2) := by decide +kernel
theorem dX0_init_78 : decode cX0_init 78 = .ok (.iconst (-1), 1) := by decide +kernel
theorem dX0_init_79 : decode cX0_init 79 = .ok (.invokestatic 28, 3) := by decide +kernel
theorem dX0_init_82 : decode cX0_init 82 = .ok (.iinc 3 1, 3) := by decide +kernel
theorem dX0_init_85 : decode cX0_init 85 = .ok (.goto (-19), 3) := by decide +kernel
theorem dX0_init_88 : decode cX0_init 88 = .ok (.aload_n 0, 1) := by decide +kernel
theorem dX0_init_89 : decode cX0_init 89 = .ok (.iconst 0, 1) := by decide +kernel
theorem dX0_init_90 : decode cX0_init 90 = .ok (.putfield 34, 3) := by decide +kernel
theorem dX0_init_93 : decode cX0_init 93 = .ok (.aload_n 0, 1) := by decide +kernel
theorem dX0_init_94 : decode cX0_init 94 = .ok (.bipush 8, 2) := by decide +kernel
theorem dX0_init_96 : decode cX0_init 96 = .ok (.putfield 38, 3) := by decide +kernel
theorem dX0_init_99 : decode cX0_init 99 = .ok (.aload_n 0, 1) := by decide +kernel
theorem dX0_init_100 : decode cX0_init 100 = .ok (.bipush 10, 2) := by decide +kernel
theorem dX0_init_102 : decode cX0_init 102 = .ok (.putfield 41, 3) := by decide +kernel
theorem dX0_init_105 : decode cX0_init 105 = .ok (.return_, 1) := by decide +kernel
theorem dX0_insert_0 : decode cX0_insert 0 = .ok (.iload_n 1, 1) := by decide +kernel
theorem dX0_insert_1 : decode cX0_insert 1 = .ok (.invokestatic 44, 3) := by decide +kernel
theorem dX0_insert_4 : decode cX0_insert 4 = .ok (.ifCond .ne 13, 3) := by decide +kernel
theorem dX0_insert_7 : decode cX0_insert 7 = .ok (.new 48, 3) := by decide +kernel
theorem dX0_insert_10 : decode cX0_insert 10 = .ok (.dup, 1) := by decide +kernel
theorem dX0_insert_11 : decode cX0_insert 11 = .ok (.ldc 50, 2) := by decide +kernel
theorem dX0_insert_13 : decode cX0_insert 13 = .ok (.invokespecial 52, 3) := by decide +kernel
theorem dX0_insert_16 : decode cX0_insert 16 = .ok (.athrow, 1) := by decide +kernel
theorem dX0_insert_17 : decode cX0_insert 17 = .ok (.aload_n 0, 1) := by decide +kernel
theorem dX0_insert_18 : decode cX0_insert 18 = .ok (.iload_n 2, 1) := by decide +kernel
theorem dX0_insert_19 : decode cX0_insert 19 = .ok (.iload_n 3, 1) := by decide +kernel
theorem dX0_insert_20 : decode cX0_insert 20 = .ok (.invokevirtual 55, 3) := by decide +kernel
theorem dX0_insert_23 : decode cX0_insert 23 = .ok (.ifCond .ne 13, 3) := by decide +kernel
theorem dX0_insert_26 : decode cX0_insert 26 = .ok (.new 59, 3) := by decide +kernel
theorem dX0_insert_29 : decode cX0_insert 29 = .ok (.dup, 1) := by decide +kernel
theorem dX0_insert_30 : decode cX0_insert 30 = .ok (.ldc 61, 2) := by decide +kernel
theorem dX0_insert_32 : decode cX0_insert 32 = .ok (.invokespecial 63, 3) := by decide +kernel
theorem dX0_insert_35 : decode cX0_insert 35 = .ok (.athrow, 1) := by decide +kernel
theorem dX0_insert_36 : decode cX0_insert 36 = .ok (.aload_n 0, 1) := by decide +kernel
theorem dX0_insert_37 : decode cX0_insert 37 = .ok (.iload_n 1, 1) := by decide +kernel
theorem dX0_insert_38 : decode cX0_insert 38 = .ok (.invokevirtual 64, 3) := by decide +kernel
theorem dX0_insert_41 : decode cX0_insert 41 = .ok (.ifCond .eq 13, 3) := by decide +kernel
theorem dX0_insert_44 : decode cX0_insert 44 = .ok (.new 67, 3) := by decide +kernel
theorem dX0_insert_47 : decode cX0_insert 47 = .ok (.dup, 1) := by decide +kernel
theorem dX0_insert_48 : decode cX0_insert 48 = .ok (.ldc 69, 2) := by decide +kernel
theorem dX0_insert_50 : decode cX0_insert 50 = .ok (.invokespecial 71, 3) := by decide +kernel
theorem dX0_insert_53 : decode cX0_insert 53 = .ok (.athrow, 1) := by decide +kernel
theorem dX0_insert_54 : decode cX0_insert 54 = .ok (.aload_n 0, 1) := by decide +kernel
theorem dX0_insert_55 : decode cX0_insert 55 = .ok (.iload_n 1, 1) := by decide +kernel
theorem dX0_insert_56 : decode cX0_insert 56 = .ok (.iload_n 2, 1) := by decide +kernel
theorem dX0_insert_57 : decode cX0_insert 57 = .ok (.iload_n 3, 1) := by decide +kernel
theorem dX0_insert_58 : decode cX0_insert 58 = .ok (.invokevirtual 72, 3) := by decide +kernel
theorem dX0_insert_61 : decode cX0_insert 61 = .ok (.aload_n 0, 1) := by decide +kernel
theorem dX0_insert_62 : decode cX0_insert 62 = .ok (.iload_n 1, 1) := by decide +kernel
theorem dX0_insert_63 : decode cX0_insert 63 = .ok (.invokevirtual 76, 3) := by decide +kernel
theorem dX0_insert_66 : decode cX0_insert 66 = .ok (.return_, 1) := by decide +kernel
theorem dX0_update_0 : decode cX0_update 0 = .ok (.iload_n 1, 1) := by decide +kernel
theorem dX0_update_1 : decode cX0_update 1 = .ok (.invokestatic 44, 3) := by decide +kernel
theorem dX0_update_4 : decode cX0_update 4 = .ok (.ifCond .ne 13, 3) := by decide +kernel
theorem dX0_update_7 : decode cX0_update 7 = .ok (.new 48, 3) := by decide +kernel
theorem dX0_update_10 : decode cX0_update 10 = .ok (.dup, 1) := by decide +kernel
theorem dX0_update_11 : decode cX0_update 11 = .ok (.ldc 50, 2) := by decide +kernel
theorem dX0_update_13 : decode cX0_update 13 = .ok (.invokespecial 52, 3) := by decide +kernel
theorem dX0_update_16 : decode cX0_update 16 = .ok (.athrow, 1) := by decide +kernel
theorem dX0_update_17 : decode cX0_update 17 = .ok (.aload_n 0, 1) := by decide +kernel
theorem dX0_update_18 : decode cX0_update 18 = .ok (.iload_n 2, 1) := by decide +kernel
theorem dX0_update_19 : decode cX0_update 19 = .ok (.iload_n 3, 1) := by decide +kernel
theorem dX0_update_20 : decode cX0_update 20 = .ok (.invokevirtual 55, 3) := by decide +kernel
theorem dX0_update_23 : decode cX0_update 23 = .ok (.ifCond .ne 13, 3) := by decide +kernel
theorem dX0_update_26 : decode cX0_update 26 = .ok (.new 59, 3) := by decide +kernel
theorem dX0_update_29 : decode cX0_update 29 = .ok (.dup, 1) := by decide +kernel
theorem dX0_update_30 : decode cX0_update 30 = .ok (.ldc 61, 2) := by decide +kernel
theorem dX0_update_32 : decode cX0_update 32 = .ok (.invokespecial 63, 3) := by decide +kernel
theorem dX0_update_35 : decode cX0_update 35 = .ok (.athrow, 1) := by decide +kernel
theorem dX0_update_36 : decode cX0_update 36 = .ok (.aload_n 0, 1) := by decide +kernel
theorem dX0_update_37 : decode cX0_update 37 = .ok (.iload_n 1, 1) := by decide +kernel
theorem dX0_update_38 : decode cX0_update 38 = .ok (.invokevirtual 64, 3) := by decide +kernel
theorem dX0_update_41 : decode cX0_update 41 = .ok (.ifCond .ne 13, 3) := by decide +kernel
theorem dX0_update_44 : decode cX0_update 44 = .ok (.new 80, 3) := by decide +kernel
theorem dX0_update_47 : decode cX0_update 47 = .ok (.dup, 1) := by decide +kernel
theorem dX0_update_48 : decode cX0_update 48 = .ok (.ldc 82, 2) := by decide +kernel
theorem dX0_update_50 : decode cX0_update 50 = .ok (.invokespecial 84, 3) := by decide +kernel
theorem dX0_update_53 : decode cX0_update 53 = .ok (.athrow, 1) := by decide +kernel
theorem dX0_update_54 : decode cX0_update 54 = .ok (.aload_n 0, 1) := by decide +kernel
theorem dX0_update_55 : decode cX0_update 55 = .ok (.iload_n 1, 1) := by decide +kernel
theorem dX0_update_56 : decode cX0_update 56 = .ok (.iload_n 2, 1) := by decide +kernel
theorem dX0_update_57 : decode cX0_update 57 = .ok (.iload_n 3, 1) := by decide +kernel
theorem dX0_update_58 : decode cX0_update 58 = .ok (.invokevirtual 72, 3) := by decide +kernel
theorem dX0_update_61 : decode cX0_update 61 = .ok (.aload_n 0, 1) := by decide +kernel
theorem dX0_update_62 : decode cX0_update 62 = .ok (.iload_n 1, 1) := by decide +kernel
theorem dX0_update_63 : decode cX0_update 63 = .ok (.invokevirtual 76, 3) := by decide +kernel
theorem dX0_update_66 : decode cX0_update 66 = .ok (.return_, 1) := by decide +kernel
theorem dX0_delete_0 : decode cX0_delete 0 = .ok (.iload_n 1, 1) := by decide +kernel
theorem dX0_delete_1 : decode cX0_delete 1 = .ok (.invokestatic 44, 3) := by decide +kernel
theorem dX0_delete_4 : decode cX0_delete 4 = .ok (.ifCond .ne 13, 3) := by decide +kernel
theorem dX0_delete_7 : decode cX0_delete 7 = .ok (.new 48, 3) := by decide +kernel
theorem dX0_delete_10 : decode cX0_delete 10 = .ok (.dup, 1) := by decide +kernel
theorem dX0_delete_11 : decode cX0_delete 11 = .ok (.ldc 50, 2) := by decide +kernel
theorem dX0_delete_13 : decode cX0_delete 13 = .ok (.invokespecial 52, 3) := by decide +kernel
theorem dX0_delete_16 : decode cX0_delete 16 = .ok (.athrow, 1) := by decide +kernel
theorem dX0_delete_17 : decode cX0_delete 17 = .ok (.aload_n 0, 1) := by decide +kernel
theorem dX0_delete_18 : decode cX0_delete 18 = .ok (.iload_n 1, 1) := by decide +kernel
theorem dX0_delete_19 : decode cX0_delete 19 = .ok (.invokevirtual 64, 3) := by decide +kernel
theorem dX0_delete_22 : decode cX0_delete 22 = .ok (.ifCond .ne 13, 3) := by decide +kernel
theorem dX0_delete_25 : decode cX0_delete 25 = .ok (.new 80, 3) := by decide +kernel
theorem dX0_delete_28 : decode cX0_delete 28 = .ok (.dup, 1) := by decide +kernel
theorem dX0_delete_29 : decode cX0_delete 29 = .ok (.ldc 82, 2) := by decide +kernel
theorem dX0_delete_31 : decode cX0_delete 31 = .ok (.invokespecial 84, 3) := by decide +kernel
theorem dX0_delete_34 : decode cX0_delete 34 = .ok (.athrow, 1) := by decide +kernel
theorem dX0_delete_35 : decode cX0_delete 35 = .ok (.aload_n 0, 1) := by decide +kernel
theorem dX0_delete_36 : decode cX0_delete 36 = .ok (.iload_n 1, 1) := by decide +kernel
theorem dX0_delete_37 : decode cX0_delete 37 = .ok (.invokevirtual 85, 3) := by decide +kernel
theorem dX0_delete_40 : decode cX0_delete 40 = .ok (.istore_n 2, 1) := by decide +kernel
theorem dX0_delete_41 : decode cX0_delete 41 = .ok (.aload_n 0, 1) := by decide +kernel
theorem dX0_delete_42 : decode cX0_delete 42 = .ok (.iload_n 1, 1) := by decide +kernel
theorem dX0_delete_43 : decode cX0_delete 43 = .ok (.invokevirtual 89, 3) := by decide +kernel
theorem dX0_delete_46 : decode cX0_delete 46 = .ok (.aload_n 0, 1) := by decide +kernel
theorem dX0_delete_47 : decode cX0_delete 47 = .ok (.iload_n 1, 1) := by decide +kernel
theorem dX0_delete_48 : decode cX0_delete 48 = .ok (.invokevirtual 76, 3) := by decide +kernel
theorem dX0_delete_51 : decode cX0_delete 51 = .ok (.iload_n 2, 1) := by decide +kernel
theorem dX0_delete_52 : decode cX0_delete 52 = .ok (.ireturn, 1) := by decide +kernel
theorem dX0_rekey_0 : decode cX0_rekey 0 = .ok (.iload_n 1, 1) := by decide +kernel
theorem dX0_rekey_1 : decode cX0_rekey 1 = .ok (.invokestatic 44, 3) := by decide +kernel
theorem dX0_rekey_4 : decode cX0_rekey 4 = .ok (.ifCond .eq 10, 3) := by decide +kernel
theorem dX0_rekey_7 : decode cX0_rekey 7 = .ok (.iload_n 2, 1) := by decide +kernel
theorem dX0_rekey_8 : decode cX0_rekey 8 = .ok (.invokestatic 44, 3) := by decide +kernel
theorem dX0_rekey_11 : decode cX0_rekey 11 = .ok (.ifCond .ne 13, 3) := by decide +kernel
theorem dX0_rekey_14 : decode cX0_rekey 14 = .ok (.new 48, 3) := by decide +kernel
theorem dX0_rekey_17 : decode cX0_rekey 17 = .ok (.dup, 1) := by decide +kernel
theorem dX0_rekey_18 : decode cX0_rekey 18 = .ok (.ldc 50, 2) := by decide +kernel
theorem dX0_rekey_20 : decode cX0_rekey 20 = .ok (.invokespecial 52, 3) := by decide +kernel
theorem dX0_rekey_23 : decode cX0_rekey 23 = .ok (.athrow, 1) := by decide +kernel
theorem dX0_rekey_24 : decode cX0_rekey 24 = .ok (.iload_n 1, 1) := by decide +kernel
theorem dX0_rekey_25 : decode cX0_rekey 25 = .ok (.iload_n 2, 1) := by decide +kernel
theorem dX0_rekey_26 : decode cX0_rekey 26 = .ok (.if_icmp .ne 13, 3) := by decide +kernel
theorem dX0_rekey_29 : decode cX0_rekey 29 = .ok (.new 59, 3) := by decide +kernel
theorem dX0_rekey_32 : decode cX0_rekey 32 = .ok (.dup, 1) := by decide +kernel
theorem dX0_rekey_33 : decode cX0_rekey 33 = .ok (.ldc 92, 2) := by decide +kernel
theorem dX0_rekey_35 : decode cX0_rekey 35 = .ok (.invokespecial 63, 3) := by decide +kernel
theorem dX0_rekey_38 : decode cX0_rekey 38 = .ok (.athrow, 1) := by decide +kernel
theorem dX0_rekey_39 : decode cX0_rekey 39 = .ok (.aload_n 0, 1) := by decide +kernel
theorem dX0_rekey_40 : decode cX0_rekey 40 = .ok (.iload_n 1, 1) := by decide +kernel
theorem dX0_rekey_41 : decode cX0_rekey 41 = .ok (.invokevirtual 64, 3) := by decide +kernel
theorem dX0_rekey_44 : decode cX0_rekey 44 = .ok (.ifCond .ne 13, 3) := by decide +kernel
theorem dX0_rekey_47 : decode cX0_rekey 47 = .ok (.new 80, 3) := by decide +kernel
theorem dX0_rekey_50 : decode cX0_rekey 50 = .ok (.dup, 1) := by decide +kernel
theorem dX0_rekey_51 : decode cX0_rekey 51 = .ok (.ldc 94, 2) := by decide +kernel
theorem dX0_rekey_53 : decode cX0_rekey 53 = .ok (.invokespecial 84, 3) := by decide +kernel
theorem dX0_rekey_56 : decode cX0_rekey 56 = .ok (.athrow, 1) := by decide +kernel
theorem dX0_rekey_57 : decode cX0_rekey 57 = .ok (.aload_n 0, 1) := by decide +kernel
theorem dX0_rekey_58 : decode cX0_rekey 58 = .ok (.iload_n 2, 1) := by decide +kernel
theorem dX0_rekey_59 : decode cX0_rekey 59 = .ok (.invokevirtual 64, 3) := by decide +kernel
theorem dX0_rekey_62 : decode cX0_rekey 62 = .ok (.ifCond .eq 13, 3) := by decide +kernel
theorem dX0_rekey_65 : decode cX0_rekey 65 = .ok (.new 67, 3) := by decide +kernel
theorem dX0_rekey_68 : decode cX0_rekey 68 = .ok (.dup, 1) := by decide +kernel
theorem dX0_rekey_69 : decode cX0_rekey 69 = .ok (.ldc 96, 2) := by decide +kernel
theorem dX0_rekey_71 : decode cX0_rekey 71 = .ok (.invokespecial 71, 3) := by decide +kernel
theorem dX0_rekey_74 : decode cX0_rekey 74 = .ok (.athrow, 1) := by decide +kernel
theorem dX0_rekey_75 : decode cX0_rekey 75 = .ok (.aload_n 0, 1) := by decide +kernel
theorem dX0_rekey_76 : decode cX0_rekey 76 = .ok (.iload_n 2, 1) := by decide +kernel
theorem dX0_rekey_77 : decode cX0_rekey 77 = .ok (.aload_n 0, 1) := by decide +kernel
theorem dX0_rekey_78 : decode cX0_rekey 78 = .ok (.getfield 9, 3) := by decide +kernel
theorem dX0_rekey_81 : decode cX0_rekey 81 = .ok (.iload_n 1, 1) := by decide +kernel
theorem dX0_rekey_82 : decode cX0_rekey 82 = .ok (.iaload, 1) := by decide +kernel
theorem dX0_rekey_83 : decode cX0_rekey 83 = .ok (.aload_n 0, 1) := by decide +kernel
theorem dX0_rekey_84 : decode cX0_rekey 84 = .ok (.getfield 13, 3) := by decide +kernel
theorem dX0_rekey_87 : decode cX0_rekey 87 = .ok (.iload_n 1, 1) := by decide +kernel
theorem dX0_rekey_88 : decode cX0_rekey 88 = .ok (.iaload, 1) := by decide +kernel
theorem dX0_rekey_89 : decode cX0_rekey 89 = .ok (.invokevirtual 72, 3) := by decide +kernel
theorem dX0_rekey_92 : decode cX0_rekey 92 = .ok (.aload_n 0, 1) := by decide +kernel
theorem dX0_rekey_93 : decode cX0_rekey 93 = .ok (.iload_n 1, 1) := by decide +kernel
theorem dX0_rekey_94 : decode cX0_rekey 94 = .ok (.invokevirtual 89, 3) := by decide +kernel
theorem dX0_rekey_97 : decode cX0_rekey 97 = .ok (.aload_n 0, 1) := by decide +kernel
theorem dX0_rekey_98 : decode cX0_rekey 98 = .ok (.iload_n 1, 1) := by decide +kernel
theorem dX0_rekey_99 : decode cX0_rekey 99 = .ok (.iload_n 2, 1) := by decide +kernel
theorem dX0_rekey_100 : decode cX0_rekey 100 = .ok (.invokestatic 98, 3) := by decide +kernel
theorem dX0_rekey_103 : decode cX0_rekey 103 = .ok (.invokevirtual 76, 3) := by decide +kernel
theorem dX0_rekey_106 : decode cX0_rekey 106 = .ok (.aload_n 0, 1) := by decide +kernel
theorem dX0_rekey_107 : decode cX0_rekey 107 = .ok (.iload_n 1, 1) := by decide +kernel
theorem dX0_rekey_108 : decode cX0_rekey 108 = .ok (.iload_n 2, 1) := by decide +kernel
theorem dX0_rekey_109 : decode cX0_rekey 109 = .ok (.invokestatic 104, 3) := by decide +kernel
theorem dX0_rekey_112 : decode cX0_rekey 112 = .ok (.invokevirtual 76, 3) := by decide +kernel
theorem dX0_rekey_115 : decode cX0_rekey 115 = .ok (.return_, 1) := by decide +kernel
theorem dX0_start_0 : decode cX0_start 0 = .ok (.iload_n 1, 1) := by decide +kernel
theorem dX0_start_1 : decode cX0_start 1 = .ok (.iconst 0, 1) := by decide +kernel
theorem dX0_start_2 : decode cX0_start 2 = .ok (.iconst 2, 1) := by decide +kernel
theorem dX0_start_3 : decode cX0_start 3 = .ok (.invokestatic 107, 3) := by decide +kernel
theorem dX0_start_6 : decode cX0_start 6 = .ok (.ifCond .eq 14, 3) := by decide +kernel
theorem dX0_start_9 : decode cX0_start 9 = .ok (.iload_n 2, 1) := by decide +kernel
theorem dX0_start_10 : decode cX0_start 10 = .ok (.iconst 0, 1) := by decide +kernel
theorem dX0_start_11 : decode cX0_start 11 = .ok (.sipush 999, 3) := by decide +kernel
theorem dX0_start_14 : decode cX0_start 14 = .ok (.invokestatic 107, 3) := by decide +kernel
theorem dX0_start_17 : decode cX0_start 17 = .ok (.ifCond .ne 13, 3) := by decide +kernel
theorem dX0_start_20 : decode cX0_start 20 = .ok (.new 59, 3) := by decide +kernel
theorem dX0_start_23 : decode cX0_start 23 = .ok (.dup, 1) := by decide +kernel
theorem dX0_start_24 : decode cX0_start 24 = .ok (.ldc 111, 2) := by decide +kernel
theorem dX0_start_26 : decode cX0_start 26 = .ok (.invokespecial 63, 3) := by decide +kernel
theorem dX0_start_29 : decode cX0_start 29 = .ok (.athrow, 1) := by decide +kernel
theorem dX0_start_30 : decode cX0_start 30 = .ok (.aload_n 0, 1) := by decide +kernel
theorem dX0_start_31 : decode cX0_start 31 = .ok (.getfield 34, 3) := by decide +kernel
theorem dX0_start_34 : decode cX0_start 34 = .ok (.ifCond .eq 13, 3) := by decide +kernel
theorem dX0_start_37 : decode cX0_start 37 = .ok (.new 67, 3) := by decide +kernel
theorem dX0_start_40 : decode cX0_start 40 = .ok (.dup, 1) := by decide +kernel
theorem dX0_start_41 : decode cX0_start 41 = .ok (.ldc 113, 2) := by decide +kernel
theorem dX0_start_43 : decode cX0_start 43 = .ok (.invokespecial 71, 3) := by decide +kernel
theorem dX0_start_46 : decode cX0_start 46 = .ok (.athrow, 1) := by decide +kernel
theorem dX0_start_47 : decode cX0_start 47 = .ok (.aload_n 0, 1) := by decide +kernel
theorem dX0_start_48 : decode cX0_start 48 = .ok (.iload_n 1, 1) := by decide +kernel
theorem dX0_start_49 : decode cX0_start 49 = .ok (.putfield 115, 3) := by decide +kernel
theorem dX0_start_52 : decode cX0_start 52 = .ok (.aload_n 0, 1) := by decide +kernel
theorem dX0_start_53 : decode cX0_start 53 = .ok (.iload_n 2, 1) := by decide +kernel
theorem dX0_start_54 : decode cX0_start 54 = .ok (.putfield 118, 3) := by decide +kernel
theorem dX0_start_57 : decode cX0_start 57 = .ok (.aload_n 0, 1) := by decide +kernel
theorem dX0_start_58 : decode cX0_start 58 = .ok (.iconst 0, 1) := by decide +kernel
theorem dX0_start_59 : decode cX0_start 59 = .ok (.putfield 121, 3) := by decide +kernel
theorem dX0_start_62 : decode cX0_start 62 = .ok (.aload_n 0, 1) := by decide +kernel
theorem dX0_start_63 : decode cX0_start 63 = .ok (.iconst 1, 1) := by decide +kernel
theorem dX0_start_64 : decode cX0_start 64 = .ok (.putfield 34, 3) := by decide +kernel
theorem dX0_start_67 : decode cX0_start 67 = .ok (.return_, 1) := by decide +kernel
theorem dX0_setPace_0 : decode cX0_setPace 0 = .ok (.iload_n 1, 1) := by decide +kernel
theorem dX0_setPace_1 : decode cX0_setPace 1 = .ok (.iconst 1, 1) := by decide +kernel
theorem dX0_setPace_2 : decode cX0_setPace 2 = .ok (.bipush 40, 2) := by decide +kernel
theorem dX0_setPace_4 : decode cX0_setPace 4 = .ok (.invokestatic 107, 3) := by decide +kernel
theorem dX0_setPace_7 : decode cX0_setPace 7 = .ok (.ifCond .eq 13, 3) := by decide +kernel
theorem dX0_setPace_10 : decode cX0_setPace 10 = .ok (.iload_n 2, 1) := by decide +kernel
theorem dX0_setPace_11 : decode cX0_setPace 11 = .ok (.iconst 0, 1) := by decide +kernel
theorem dX0_setPace_12 : decode cX0_setPace 12 = .ok (.bipush 100, 2) := by decide +kernel
theorem dX0_setPace_14 : decode cX0_setPace 14 = .ok (.invokestatic 107, 3) := by decide +kernel
theorem dX0_setPace_17 : decode cX0_setPace 17 = .ok (.ifCond .ne 13, 3) := by decide +kernel
theorem dX0_setPace_20 : decode cX0_setPace 20 = .ok (.new 59, 3) := by decide +kernel
theorem dX0_setPace_23 : decode cX0_setPace 23 = .ok (.dup, 1) := by decide +kernel
theorem dX0_setPace_24 : decode cX0_setPace 24 = .ok (.ldc 124, 2) := by decide +kernel
theorem dX0_setPace_26 : decode cX0_setPace 26 = .ok (.invokespecial 63, 3) := by decide +kernel
theorem dX0_setPace_29 : decode cX0_setPace 29 = .ok (.athrow, 1) := by decide +kernel
theorem dX0_setPace_30 : decode cX0_setPace 30 = .ok (.aload_n 0, 1) := by decide +kernel
theorem dX0_setPace_31 : decode cX0_setPace 31 = .ok (.iload_n 1, 1) := by decide +kernel
theorem dX0_setPace_32 : decode cX0_setPace 32 = .ok (.putfield 38, 3) := by decide +kernel
theorem dX0_setPace_35 : decode cX0_setPace 35 = .ok (.aload_n 0, 1) := by decide +kernel
theorem dX0_setPace_36 : decode cX0_setPace 36 = .ok (.iload_n 2, 1) := by decide +kernel
theorem dX0_setPace_37 : decode cX0_setPace 37 = .ok (.putfield 41, 3) := by decide +kernel
theorem dX0_setPace_40 : decode cX0_setPace 40 = .ok (.return_, 1) := by decide +kernel
theorem dX0_tick_0 : decode cX0_tick 0 = .ok (.iload_n 1, 1) := by decide +kernel
theorem dX0_tick_1 : decode cX0_tick 1 = .ok (.iconst 0, 1) := by decide +kernel
theorem dX0_tick_2 : decode cX0_tick 2 = .ok (.sipush 1000, 3) := by decide +kernel
theorem dX0_tick_5 : decode cX0_tick 5 = .ok (.invokestatic 107, 3) := by decide +kernel
theorem dX0_tick_8 : decode cX0_tick 8 = .ok (.ifCond .ne 13, 3) := by decide +kernel
theorem dX0_tick_11 : decode cX0_tick 11 = .ok (.new 59, 3) := by decide +kernel
theorem dX0_tick_14 : decode cX0_tick 14 = .ok (.dup, 1) := by decide +kernel
theorem dX0_tick_15 : decode cX0_tick 15 = .ok (.ldc 126, 2) := by decide +kernel
theorem dX0_tick_17 : decode cX0_tick 17 = .ok (.invokespecial 63, 3) := by decide +kernel
theorem dX0_tick_20 : decode cX0_tick 20 = .ok (.athrow, 1) := by decide +kernel
theorem dX0_tick_21 : decode cX0_tick 21 = .ok (.aload_n 0, 1) := by decide +kernel
theorem dX0_tick_22 : decode cX0_tick 22 = .ok (.getfield 34, 3) := by decide +kernel
theorem dX0_tick_25 : decode cX0_tick 25 = .ok (.iconst 1, 1) := by decide +kernel
theorem dX0_tick_26 : decode cX0_tick 26 = .ok (.if_icmp .eq 13, 3) := by decide +kernel
theorem dX0_tick_29 : decode cX0_tick 29 = .ok (.new 67, 3) := by decide +kernel
theorem dX0_tick_32 : decode cX0_tick 32 = .ok (.dup, 1) := by decide +kernel
theorem dX0_tick_33 : decode cX0_tick 33 = .ok (.ldc 128, 2) := by decide +kernel
theorem dX0_tick_35 : decode cX0_tick 35 = .ok (.invokespecial 71, 3) := by decide +kernel
theorem dX0_tick_38 : decode cX0_tick 38 = .ok (.athrow, 1) := by decide +kernel
theorem dX0_tick_39 : decode cX0_tick 39 = .ok (.iload_n 1, 1) := by decide +kernel
theorem dX0_tick_40 : decode cX0_tick 40 = .ok (.aload_n 0, 1) := by decide +kernel
theorem dX0_tick_41 : decode cX0_tick 41 = .ok (.getfield 41, 3) := by decide +kernel
theorem dX0_tick_44 : decode cX0_tick 44 = .ok (.if_icmp .le 5, 3) := by decide +kernel
theorem dX0_tick_47 : decode cX0_tick 47 = .ok (.iconst 0, 1) := by decide +kernel
theorem dX0_tick_48 : decode cX0_tick 48 = .ok (.ireturn, 1) := by decide +kernel
theorem dX0_tick_49 : decode cX0_tick 49 = .ok (.aload_n 0, 1) := by decide +kernel
theorem dX0_tick_50 : decode cX0_tick 50 = .ok (.getfield 121, 3) := by decide +kernel
theorem dX0_tick_53 : decode cX0_tick 53 = .ok (.bipush 40, 2) := by decide +kernel
theorem dX0_tick_55 : decode cX0_tick 55 = .ok (.if_icmp .ge 8, 3) := by decide +kernel
theorem dX0_tick_58 : decode cX0_tick 58 = .ok (.aload_n 0, 1) := by decide +kernel
theorem dX0_tick_59 : decode cX0_tick 59 = .ok (.invokevirtual 130, 3) := by decide +kernel
theorem dX0_tick_62 : decode cX0_tick 62 = .ok (.ireturn, 1) := by decide +kernel
theorem dX0_tick_63 : decode cX0_tick 63 = .ok (.aload_n 0, 1) := by decide +kernel
theorem dX0_tick_64 : decode cX0_tick 64 = .ok (.aload_n 0, 1) := by decide +kernel
theorem dX0_tick_65 : decode cX0_tick 65 = .ok (.getfield 38, 3) := by decide +kernel
theorem dX0_tick_68 : decode cX0_tick 68 = .ok (.aload_n 0, 1) := by decide +kernel
theorem dX0_tick_69 : decode cX0_tick 69 = .ok (.getfield 134, 3) := by decide +kernel
theorem dX0_tick_72 : decode cX0_tick 72 = .ok (.invokestatic 98, 3) := by decide +kernel
theorem dX0_tick_75 : decode cX0_tick 75 = .ok (.invokevirtual 137, 3) := by decide +kernel
theorem dX0_tick_78 : decode cX0_tick 78 = .ok (.ireturn, 1) := by decide +kernel
theorem dX0_cutOver_0 : decode cX0_cutOver 0 = .ok (.iload_n 1, 1) := by decide +kernel
theorem dX0_cutOver_1 : decode cX0_cutOver 1 = .ok (.iconst 0, 1) := by decide +kernel
theorem dX0_cutOver_2 : decode cX0_cutOver 2 = .ok (.sipush 1000, 3) := by decide +kernel
theorem dX0_cutOver_5 : decode cX0_cutOver 5 = .ok (.invokestatic 107, 3) := by decide +kernel
theorem dX0_cutOver_8 : decode cX0_cutOver 8 = .ok (.ifCond .ne 13, 3) := by decide +kernel
theorem dX0_cutOver_11 : decode cX0_cutOver 11 = .ok (.new 59, 3) := by decide +kernel
theorem dX0_cutOver_14 : decode cX0_cutOver 14 = .ok (.dup, 1) := by decide +kernel
theorem dX0_cutOver_15 : decode cX0_cutOver 15 = .ok (.ldc 140, 2) := by decide +kernel
theorem dX0_cutOver_17 : decode cX0_cutOver 17 = .ok (.invokespecial 63, 3) := by decide +kernel
theorem dX0_cutOver_20 : decode cX0_cutOver 20 = .ok (.athrow, 1) := by decide +kernel
theorem dX0_cutOver_21 : decode cX0_cutOver 21 = .ok (.aload_n 0, 1) := by decide +kernel
theorem dX0_cutOver_22 : decode cX0_cutOver 22 = .ok (.getfield 34, 3) := by decide +kernel
theorem dX0_cutOver_25 : decode cX0_cutOver 25 = .ok (.iconst 1, 1) := by decide +kernel
theorem dX0_cutOver_26 : decode cX0_cutOver 26 = .ok (.if_icmp .ne 20, 3) := by decide +kernel
theorem dX0_cutOver_29 : decode cX0_cutOver 29 = .ok (.aload_n 0, 1) := by decide +kernel
theorem dX0_cutOver_30 : decode cX0_cutOver 30 = .ok (.getfield 121, 3) := by decide +kernel
theorem dX0_cutOver_33 : decode cX0_cutOver 33 = .ok (.bipush 40, 2) := by decide +kernel
theorem dX0_cutOver_35 : decode cX0_cutOver 35 = .ok (.if_icmp .lt 11, 3) := by decide +kernel
theorem dX0_cutOver_38 : decode cX0_cutOver 38 = .ok (.aload_n 0, 1) := by decide +kernel
theorem dX0_cutOver_39 : decode cX0_cutOver 39 = .ok (.getfield 134, 3) := by decide +kernel
theorem dX0_cutOver_42 : decode cX0_cutOver 42 = .ok (.iload_n 1, 1) := by decide +kernel
theorem dX0_cutOver_43 : decode cX0_cutOver 43 = .ok (.if_icmp .le 13, 3) := by decide +kernel
theorem dX0_cutOver_46 : decode cX0_cutOver 46 = .ok (.new 67, 3) := by decide +kernel
theorem dX0_cutOver_49 : decode cX0_cutOver 49 = .ok (.dup, 1) := by decide +kernel
theorem dX0_cutOver_50 : decode cX0_cutOver 50 = .ok (.ldc 142, 2) := by decide +kernel
theorem dX0_cutOver_52 : decode cX0_cutOver 52 = .ok (.invokespecial 71, 3) := by decide +kernel
theorem dX0_cutOver_55 : decode cX0_cutOver 55 = .ok (.athrow, 1) := by decide +kernel
theorem dX0_cutOver_56 : decode cX0_cutOver 56 = .ok (.aload_n 0, 1) := by decide +kernel
theorem dX0_cutOver_57 : decode cX0_cutOver 57 = .ok (.aload_n 0, 1) := by decide +kernel
theorem dX0_cutOver_58 : decode cX0_cutOver 58 = .ok (.getfield 134, 3) := by decide +kernel
theorem dX0_cutOver_61 : decode cX0_cutOver 61 = .ok (.invokevirtual 137, 3) := by decide +kernel
theorem dX0_cutOver_64 : decode cX0_cutOver 64 = .ok (.istore_n 2, 1) := by decide +kernel
theorem dX0_cutOver_65 : decode cX0_cutOver 65 = .ok (.aload_n 0, 1) := by decide +kernel
theorem dX0_cutOver_66 : decode cX0_cutOver 66 = .ok (.iconst 2, 1) := by decide +kernel
theorem dX0_cutOver_67 : decode cX0_cutOver 67 = .ok (.putfield 34, 3) := by decide +kernel
theorem dX0_cutOver_70 : decode cX0_cutOver 70 = .ok (.iload_n 2, 1) := by decide +kernel
theorem dX0_cutOver_71 : decode cX0_cutOver 71 = .ok (.ireturn, 1) := by decide +kernel
theorem dX0_undo_0 : decode cX0_undo 0 = .ok (.aload_n 0, 1) := by decide +kernel
theorem dX0_undo_1 : decode cX0_undo 1 = .ok (.getfield 34, 3) := by decide +kernel
theorem dX0_undo_4 : decode cX0_undo 4 = .ok (.iconst 2, 1) := by decide +kernel
theorem dX0_undo_5 : decode cX0_undo 5 = .ok (.if_icmp .eq 13, 3) := by decide +kernel
theorem dX0_undo_8 : decode cX0_undo 8 = .ok (.new 67, 3) := by decide +kernel
theorem dX0_undo_11 : decode cX0_undo 11 = .ok (.dup, 1) := by decide +kernel
theorem dX0_undo_12 : decode cX0_undo 12 = .ok (.ldc 144, 2) := by decide +kernel
theorem dX0_undo_14 : decode cX0_undo 14 = .ok (.invokespecial 71, 3) := by decide +kernel
theorem dX0_undo_17 : decode cX0_undo 17 = .ok (.athrow, 1) := by decide +kernel
theorem dX0_undo_18 : decode cX0_undo 18 = .ok (.aload_n 0, 1) := by decide +kernel
theorem dX0_undo_19 : decode cX0_undo 19 = .ok (.iconst 1, 1) := by decide +kernel
theorem dX0_undo_20 : decode cX0_undo 20 = .ok (.putfield 34, 3) := by decide +kernel
theorem dX0_undo_23 : decode cX0_undo 23 = .ok (.return_, 1) := by decide +kernel
theorem dX0_finish_0 : decode cX0_finish 0 = .ok (.aload_n 0, 1) := by decide +kernel
theorem dX0_finish_1 : decode cX0_finish 1 = .ok (.getfield 34, 3) := by decide +kernel
theorem dX0_finish_4 : decode cX0_finish 4 = .ok (.iconst 2, 1) := by decide +kernel
theorem dX0_finish_5 : decode cX0_finish 5 = .ok (.if_icmp .eq 13, 3) := by decide +kernel
theorem dX0_finish_8 : decode cX0_finish 8 = .ok (.new 67, 3) := by decide +kernel
theorem dX0_finish_11 : decode cX0_finish 11 = .ok (.dup, 1) := by decide +kernel
theorem dX0_finish_12 : decode cX0_finish 12 = .ok (.ldc 144, 2) := by decide +kernel
theorem dX0_finish_14 : decode cX0_finish 14 = .ok (.invokespecial 71, 3) := by decide +kernel
theorem dX0_finish_17 : decode cX0_finish 17 = .ok (.athrow, 1) := by decide +kernel
theorem dX0_finish_18 : decode cX0_finish 18 = .ok (.aload_n 0, 1) := by decide +kernel
theorem dX0_finish_19 : decode cX0_finish 19 = .ok (.invokevirtual 146, 3) := by decide +kernel
theorem dX0_finish_22 : decode cX0_finish 22 = .ok (.istore_n 1, 1) := by decide +kernel
theorem dX0_finish_23 : decode cX0_finish 23 = .ok (.aload_n 0, 1) := by decide +kernel
theorem dX0_finish_24 : decode cX0_finish 24 = .ok (.invokevirtual 149, 3) := by decide +kernel
theorem dX0_finish_27 : decode cX0_finish 27 = .ok (.iload_n 1, 1) := by decide +kernel
theorem dX0_finish_28 : decode cX0_finish 28 = .ok (.ireturn, 1) := by decide +kernel
theorem dX0_giveUp_0 : decode cX0_giveUp 0 = .ok (.aload_n 0, 1) := by decide +kernel
theorem dX0_giveUp_1 : decode cX0_giveUp 1 = .ok (.getfield 34, 3) := by decide +kernel
theorem dX0_giveUp_4 : decode cX0_giveUp 4 = .ok (.iconst 1, 1) := by decide +kernel
theorem dX0_giveUp_5 : decode cX0_giveUp 5 = .ok (.if_icmp .eq 13, 3) := by decide +kernel
theorem dX0_giveUp_8 : decode cX0_giveUp 8 = .ok (.new 67, 3) := by decide +kernel
theorem dX0_giveUp_11 : decode cX0_giveUp 11 = .ok (.dup, 1) := by decide +kernel
theorem dX0_giveUp_12 : decode cX0_giveUp 12 = .ok (.ldc 128, 2) := by decide +kernel
theorem dX0_giveUp_14 : decode cX0_giveUp 14 = .ok (.invokespecial 71, 3) := by decide +kernel
theorem dX0_giveUp_17 : decode cX0_giveUp 17 = .ok (.athrow, 1) := by decide +kernel
theorem dX0_giveUp_18 : decode cX0_giveUp 18 = .ok (.aload_n 0, 1) := by decide +kernel
theorem dX0_giveUp_19 : decode cX0_giveUp 19 = .ok (.invokevirtual 152, 3) := by decide +kernel
theorem dX0_giveUp_22 : decode cX0_giveUp 22 = .ok (.istore_n 1, 1) := by decide +kernel
theorem dX0_giveUp_23 : decode cX0_giveUp 23 = .ok (.aload_n 0, 1) := by decide +kernel
theorem dX0_giveUp_24 : decode cX0_giveUp 24 = .ok (.invokevirtual 149, 3) := by decide +kernel
theorem dX0_giveUp_27 : decode cX0_giveUp 27 = .ok (.iload_n 1, 1) := by decide +kernel
theorem dX0_giveUp_28 : decode cX0_giveUp 28 = .ok (.ireturn, 1) := by decide +kernel
theorem dX0_row_0 : decode cX0_row 0 = .ok (.iload_n 1, 1) := by decide +kernel
theorem dX0_row_1 : decode cX0_row 1 = .ok (.invokestatic 44, 3) := by decide +kernel
theorem dX0_row_4 : decode cX0_row 4 = .ok (.ifCond .ne 13, 3) := by decide +kernel
theorem dX0_row_7 : decode cX0_row 7 = .ok (.new 48, 3) := by decide +kernel
theorem dX0_row_10 : decode cX0_row 10 = .ok (.dup, 1) := by decide +kernel
theorem dX0_row_11 : decode cX0_row 11 = .ok (.ldc 50, 2) := by decide +kernel
theorem dX0_row_13 : decode cX0_row 13 = .ok (.invokespecial 52, 3) := by decide +kernel
theorem dX0_row_16 : decode cX0_row 16 = .ok (.athrow, 1) := by decide +kernel
theorem dX0_row_17 : decode cX0_row 17 = .ok (.aload_n 0, 1) := by decide +kernel
theorem dX0_row_18 : decode cX0_row 18 = .ok (.iload_n 1, 1) := by decide +kernel
theorem dX0_row_19 : decode cX0_row 19 = .ok (.invokevirtual 64, 3) := by decide +kernel
theorem dX0_row_22 : decode cX0_row 22 = .ok (.ifCond .eq 11, 3) := by decide +kernel
theorem dX0_row_25 : decode cX0_row 25 = .ok (.aload_n 0, 1) := by decide +kernel
theorem dX0_row_26 : decode cX0_row 26 = .ok (.iload_n 1, 1) := by decide +kernel
theorem dX0_row_27 : decode cX0_row 27 = .ok (.invokevirtual 85, 3) := by decide +kernel
theorem dX0_row_30 : decode cX0_row 30 = .ok (.goto 4, 3) := by decide +kernel
theorem dX0_row_33 : decode cX0_row 33 = .ok (.iconst (-1), 1) := by decide +kernel
theorem dX0_row_34 : decode cX0_row 34 = .ok (.ireturn, 1) := by decide +kernel
theorem dX0_rows_0 : decode cX0_rows 0 = .ok (.iconst 0, 1) := by decide +kernel
theorem dX0_rows_1 : decode cX0_rows 1 = .ok (.istore_n 1, 1) := by decide +kernel
theorem dX0_rows_2 : decode cX0_rows 2 = .ok (.iconst 0, 1) := by decide +kernel
theorem dX0_rows_3 : decode cX0_rows 3 = .ok (.istore_n 2, 1) := by decide +kernel
theorem dX0_rows_4 : decode cX0_rows 4 = .ok (.iload_n 2, 1) := by decide +kernel
theorem dX0_rows_5 : decode cX0_rows 5 = .ok (.bipush 40, 2) := by decide +kernel
theorem dX0_rows_7 : decode cX0_rows 7 = .ok (.if_icmp .ge 20, 3) := by decide +kernel
theorem dX0_rows_10 : decode cX0_rows 10 = .ok (.aload_n 0, 1) := by decide +kernel
theorem dX0_rows_11 : decode cX0_rows 11 = .ok (.iload_n 2, 1) := by decide +kernel
theorem dX0_rows_12 : decode cX0_rows 12 = .ok (.invokevirtual 64, 3) := by decide +kernel
theorem dX0_rows_15 : decode cX0_rows 15 = .ok (.ifCond .eq 6, 3) := by decide +kernel
theorem dX0_rows_18 : decode cX0_rows 18 = .ok (.iinc 1 1, 3) := by decide +kernel
theorem dX0_rows_21 : decode cX0_rows 21 = .ok (.iinc 2 1, 3) := by decide +kernel
theorem dX0_rows_24 : decode cX0_rows 24 = .ok (.goto (-20), 3) := by decide +kernel
theorem dX0_rows_27 : decode cX0_rows 27 = .ok (.iload_n 1, 1) := by decide +kernel
theorem dX0_rows_28 : decode cX0_rows 28 = .ok (.ireturn, 1) := by decide +kernel
theorem dX0_phase_0 : decode cX0_phase 0 = .ok (.aload_n 0, 1) := by decide +kernel
theorem dX0_phase_1 : decode cX0_phase 1 = .ok (.getfield 34, 3) := by decide +kernel
theorem dX0_phase_4 : decode cX0_phase 4 = .ok (.ireturn, 1) := by decide +kernel
theorem dX0_mark_0 : decode cX0_mark 0 = .ok (.aload_n 0, 1) := by decide +kernel
theorem dX0_mark_1 : decode cX0_mark 1 = .ok (.getfield 34, 3) := by decide +kernel
theorem dX0_mark_4 : decode cX0_mark 4 = .ok (.ifCond .ne 7, 3) := by decide +kernel
theorem dX0_mark_7 : decode cX0_mark 7 = .ok (.iconst (-1), 1) := by decide +kernel
theorem dX0_mark_8 : decode cX0_mark 8 = .ok (.goto 7, 3) := by decide +kernel
theorem dX0_mark_11 : decode cX0_mark 11 = .ok (.aload_n 0, 1) := by decide +kernel
theorem dX0_mark_12 : decode cX0_mark 12 = .ok (.getfield 121, 3) := by decide +kernel
theorem dX0_mark_15 : decode cX0_mark 15 = .ok (.ireturn, 1) := by decide +kernel
theorem dX0_notes_0 : decode cX0_notes 0 = .ok (.aload_n 0, 1) := by decide +kernel
theorem dX0_notes_1 : decode cX0_notes 1 = .ok (.getfield 134, 3) := by decide +kernel
theorem dX0_notes_4 : decode cX0_notes 4 = .ok (.ireturn, 1) := by decide +kernel
theorem dX0_shadow_0 : decode cX0_shadow 0 = .ok (.iload_n 1, 1) := by decide +kernel
theorem dX0_shadow_1 : decode cX0_shadow 1 = .ok (.invokestatic 44, 3) := by decide +kernel
theorem dX0_shadow_4 : decode cX0_shadow 4 = .ok (.ifCond .eq 10, 3) := by decide +kernel
theorem dX0_shadow_7 : decode cX0_shadow 7 = .ok (.iload_n 2, 1) := by decide +kernel
theorem dX0_shadow_8 : decode cX0_shadow 8 = .ok (.invokestatic 155, 3) := by decide +kernel
theorem dX0_shadow_11 : decode cX0_shadow 11 = .ok (.ifCond .ne 13, 3) := by decide +kernel
theorem dX0_shadow_14 : decode cX0_shadow 14 = .ok (.new 48, 3) := by decide +kernel
theorem dX0_shadow_17 : decode cX0_shadow 17 = .ok (.dup, 1) := by decide +kernel
theorem dX0_shadow_18 : decode cX0_shadow 18 = .ok (.ldc 158, 2) := by decide +kernel
theorem dX0_shadow_20 : decode cX0_shadow 20 = .ok (.invokespecial 52, 3) := by decide +kernel
theorem dX0_shadow_23 : decode cX0_shadow 23 = .ok (.athrow, 1) := by decide +kernel
theorem dX0_shadow_24 : decode cX0_shadow 24 = .ok (.aload_n 0, 1) := by decide +kernel
theorem dX0_shadow_25 : decode cX0_shadow 25 = .ok (.getfield 18, 3) := by decide +kernel
theorem dX0_shadow_28 : decode cX0_shadow 28 = .ok (.iload_n 2, 1) := by decide +kernel
theorem dX0_shadow_29 : decode cX0_shadow 29 = .ok (.aaload, 1) := by decide +kernel
theorem dX0_shadow_30 : decode cX0_shadow 30 = .ok (.iload_n 1, 1) := by decide +kernel
theorem dX0_shadow_31 : decode cX0_shadow 31 = .ok (.iaload, 1) := by decide +kernel
theorem dX0_shadow_32 : decode cX0_shadow 32 = .ok (.ireturn, 1) := by decide +kernel
theorem dX0_shadowRows_0 : decode cX0_shadowRows 0 = .ok (.iconst 0, 1) := by decide +kernel
theorem dX0_shadowRows_1 : decode cX0_shadowRows 1 = .ok (.istore_n 1, 1) := by decide +kernel
theorem dX0_shadowRows_2 : decode cX0_shadowRows 2 = .ok (.iconst 0, 1) := by decide +kernel
theorem dX0_shadowRows_3 : decode cX0_shadowRows 3 = .ok (.istore_n 2, 1) := by decide +kernel
theorem dX0_shadowRows_4 : decode cX0_shadowRows 4 = .ok (.iload_n 2, 1) := by decide +kernel
theorem dX0_shadowRows_5 : decode cX0_shadowRows 5 = .ok (.bipush 40, 2) := by decide +kernel
theorem dX0_shadowRows_7 : decode cX0_shadowRows 7 = .ok (.if_icmp .ge 20, 3) := by decide +kernel
theorem dX0_shadowRows_10 : decode cX0_shadowRows 10 = .ok (.aload_n 0, 1) := by decide +kernel
theorem dX0_shadowRows_11 : decode cX0_shadowRows 11 = .ok (.iload_n 2, 1) := by decide +kernel
theorem dX0_shadowRows_12 : decode cX0_shadowRows 12 = .ok (.invokevirtual 160, 3) := by decide +kernel
theorem dX0_shadowRows_15 : decode cX0_shadowRows 15 = .ok (.ifCond .eq 6, 3) := by decide +kernel
theorem dX0_shadowRows_18 : decode cX0_shadowRows 18 = .ok (.iinc 1 1, 3) := by decide +kernel
theorem dX0_shadowRows_21 : decode cX0_shadowRows 21 = .ok (.iinc 2 1, 3) := by decide +kernel
theorem dX0_shadowRows_24 : decode cX0_shadowRows 24 = .ok (.goto (-20), 3) := by decide +kernel
theorem dX0_shadowRows_27 : decode cX0_shadowRows 27 = .ok (.iload_n 1, 1) := by decide +kernel
theorem dX0_shadowRows_28 : decode cX0_shadowRows 28 = .ok (.ireturn, 1) := by decide +kernel
theorem dX0_isRefused_0 : decode cX0_isRefused 0 = .ok (.iload_n 1, 1) := by decide +kernel
theorem dX0_isRefused_1 : decode cX0_isRefused 1 = .ok (.invokestatic 44, 3) := by decide +kernel
theorem dX0_isRefused_4 : decode cX0_isRefused 4 = .ok (.ifCond .ne 13, 3) := by decide +kernel
theorem dX0_isRefused_7 : decode cX0_isRefused 7 = .ok (.new 48, 3) := by decide +kernel
theorem dX0_isRefused_10 : decode cX0_isRefused 10 = .ok (.dup, 1) := by decide +kernel
theorem dX0_isRefused_11 : decode cX0_isRefused 11 = .ok (.ldc 50, 2) := by decide +kernel
theorem dX0_isRefused_13 : decode cX0_isRefused 13 = .ok (.invokespecial 52, 3) := by decide +kernel
theorem dX0_isRefused_16 : decode cX0_isRefused 16 = .ok (.athrow, 1) := by decide +kernel
theorem dX0_isRefused_17 : decode cX0_isRefused 17 = .ok (.aload_n 0, 1) := by decide +kernel
theorem dX0_isRefused_18 : decode cX0_isRefused 18 = .ok (.getfield 21, 3) := by decide +kernel
theorem dX0_isRefused_21 : decode cX0_isRefused 21 = .ok (.iload_n 1, 1) := by decide +kernel
theorem dX0_isRefused_22 : decode cX0_isRefused 22 = .ok (.baload, 1) := by decide +kernel
theorem dX0_isRefused_23 : decode cX0_isRefused 23 = .ok (.ireturn, 1) := by decide +kernel
theorem dX0_behind_0 : decode cX0_behind 0 = .ok (.aload_n 0, 1) := by decide +kernel
theorem dX0_behind_1 : decode cX0_behind 1 = .ok (.getfield 34, 3) := by decide +kernel
theorem dX0_behind_4 : decode cX0_behind 4 = .ok (.ifCond .ne 5, 3) := by decide +kernel
theorem dX0_behind_7 : decode cX0_behind 7 = .ok (.iconst 0, 1) := by decide +kernel
theorem dX0_behind_8 : decode cX0_behind 8 = .ok (.ireturn, 1) := by decide +kernel
theorem dX0_behind_9 : decode cX0_behind 9 = .ok (.iconst 0, 1) := by decide +kernel
theorem dX0_behind_10 : decode cX0_behind 10 = .ok (.istore_n 1, 1) := by decide +kernel
theorem dX0_behind_11 : decode cX0_behind 11 = .ok (.iconst 0, 1) := by decide +kernel
theorem dX0_behind_12 : decode cX0_behind 12 = .ok (.istore_n 2, 1) := by decide +kernel
theorem dX0_behind_13 : decode cX0_behind 13 = .ok (.iload_n 2, 1) := by decide +kernel
theorem dX0_behind_14 : decode cX0_behind 14 = .ok (.bipush 40, 2) := by decide +kernel
theorem dX0_behind_16 : decode cX0_behind 16 = .ok (.if_icmp .ge 20, 3) := by decide +kernel
theorem dX0_behind_19 : decode cX0_behind 19 = .ok (.aload_n 0, 1) := by decide +kernel
theorem dX0_behind_20 : decode cX0_behind 20 = .ok (.iload_n 2, 1) := by decide +kernel
theorem dX0_behind_21 : decode cX0_behind 21 = .ok (.invokevirtual 163, 3) := by decide +kernel
theorem dX0_behind_24 : decode cX0_behind 24 = .ok (.ifCond .eq 6, 3) := by decide +kernel
theorem dX0_behind_27 : decode cX0_behind 27 = .ok (.iinc 1 1, 3) := by decide +kernel
theorem dX0_behind_30 : decode cX0_behind 30 = .ok (.iinc 2 1, 3) := by decide +kernel
theorem dX0_behind_33 : decode cX0_behind 33 = .ok (.goto (-20), 3) := by decide +kernel
theorem dX0_behind_36 : decode cX0_behind 36 = .ok (.iload_n 1, 1) := by decide +kernel
theorem dX0_behind_37 : decode cX0_behind 37 = .ok (.ireturn, 1) := by decide +kernel
theorem dX0_sum_0 : decode cX0_sum 0 = .ok (.iload_n 1, 1) := by decide +kernel
theorem dX0_sum_1 : decode cX0_sum 1 = .ok (.invokestatic 155, 3) := by decide +kernel
theorem dX0_sum_4 : decode cX0_sum 4 = .ok (.ifCond .ne 13, 3) := by decide +kernel
theorem dX0_sum_7 : decode cX0_sum 7 = .ok (.new 48, 3) := by decide +kernel
theorem dX0_sum_10 : decode cX0_sum 10 = .ok (.dup, 1) := by decide +kernel
theorem dX0_sum_11 : decode cX0_sum 11 = .ok (.ldc 166, 2) := by decide +kernel
theorem dX0_sum_13 : decode cX0_sum 13 = .ok (.invokespecial 52, 3) := by decide +kernel
theorem dX0_sum_16 : decode cX0_sum 16 = .ok (.athrow, 1) := by decide +kernel
theorem dX0_sum_17 : decode cX0_sum 17 = .ok (.iconst 0, 1) := by decide +kernel
theorem dX0_sum_18 : decode cX0_sum 18 = .ok (.istore_n 2, 1) := by decide +kernel
theorem dX0_sum_19 : decode cX0_sum 19 = .ok (.iconst 0, 1) := by decide +kernel
theorem dX0_sum_20 : decode cX0_sum 20 = .ok (.istore_n 3, 1) := by decide +kernel
theorem dX0_sum_21 : decode cX0_sum 21 = .ok (.iload_n 3, 1) := by decide +kernel
theorem dX0_sum_22 : decode cX0_sum 22 = .ok (.bipush 40, 2) := by decide +kernel
theorem dX0_sum_24 : decode cX0_sum 24 = .ok (.if_icmp .ge 28, 3) := by decide +kernel
theorem dX0_sum_27 : decode cX0_sum 27 = .ok (.aload_n 0, 1) := by decide +kernel
theorem dX0_sum_28 : decode cX0_sum 28 = .ok (.iload_n 3, 1) := by decide +kernel
theorem dX0_sum_29 : decode cX0_sum 29 = .ok (.invokevirtual 160, 3) := by decide +kernel
theorem dX0_sum_32 : decode cX0_sum 32 = .ok (.ifCond .eq 14, 3) := by decide +kernel
theorem dX0_sum_35 : decode cX0_sum 35 = .ok (.iload_n 2, 1) := by decide +kernel
theorem dX0_sum_36 : decode cX0_sum 36 = .ok (.aload_n 0, 1) := by decide +kernel
theorem dX0_sum_37 : decode cX0_sum 37 = .ok (.getfield 18, 3) := by decide +kernel
theorem dX0_sum_40 : decode cX0_sum 40 = .ok (.iload_n 1, 1) := by decide +kernel
theorem dX0_sum_41 : decode cX0_sum 41 = .ok (.aaload, 1) := by decide +kernel
theorem dX0_sum_42 : decode cX0_sum 42 = .ok (.iload_n 3, 1) := by decide +kernel
theorem dX0_sum_43 : decode cX0_sum 43 = .ok (.iaload, 1) := by decide +kernel
theorem dX0_sum_44 : decode cX0_sum 44 = .ok (.iadd, 1) := by decide +kernel
theorem dX0_sum_45 : decode cX0_sum 45 = .ok (.istore_n 2, 1) := by decide +kernel
theorem dX0_sum_46 : decode cX0_sum 46 = .ok (.iinc 3 1, 3) := by decide +kernel
theorem dX0_sum_49 : decode cX0_sum 49 = .ok (.goto (-28), 3) := by decide +kernel
theorem dX0_sum_52 : decode cX0_sum 52 = .ok (.iload_n 2, 1) := by decide +kernel
theorem dX0_sum_53 : decode cX0_sum 53 = .ok (.ireturn, 1) := by decide +kernel
theorem dX0_sumAtOnce_0 : decode cX0_sumAtOnce 0 = .ok (.iload_n 1, 1) := by decide +kernel
theorem dX0_sumAtOnce_1 : decode cX0_sumAtOnce 1 = .ok (.invokestatic 155, 3) := by decide +kernel
theorem dX0_sumAtOnce_4 : decode cX0_sumAtOnce 4 = .ok (.ifCond .ne 13, 3) := by decide +kernel
theorem dX0_sumAtOnce_7 : decode cX0_sumAtOnce 7 = .ok (.new 48, 3) := by decide +kernel
theorem dX0_sumAtOnce_10 : decode cX0_sumAtOnce 10 = .ok (.dup, 1) := by decide +kernel
theorem dX0_sumAtOnce_11 : decode cX0_sumAtOnce 11 = .ok (.ldc 166, 2) := by decide +kernel
theorem dX0_sumAtOnce_13 : decode cX0_sumAtOnce 13 = .ok (.invokespecial 52, 3) := by decide +kernel
theorem dX0_sumAtOnce_16 : decode cX0_sumAtOnce 16 = .ok (.athrow, 1) := by decide +kernel
theorem dX0_sumAtOnce_17 : decode cX0_sumAtOnce 17 = .ok (.aload_n 0, 1) := by decide +kernel
theorem dX0_sumAtOnce_18 : decode cX0_sumAtOnce 18 = .ok (.getfield 34, 3) := by decide +kernel
theorem dX0_sumAtOnce_21 : decode cX0_sumAtOnce 21 = .ok (.ifCond .ne 5, 3) := by decide +kernel
theorem dX0_sumAtOnce_24 : decode cX0_sumAtOnce 24 = .ok (.iconst 0, 1) := by decide +kernel
theorem dX0_sumAtOnce_25 : decode cX0_sumAtOnce 25 = .ok (.ireturn, 1) := by decide +kernel
theorem dX0_sumAtOnce_26 : decode cX0_sumAtOnce 26 = .ok (.iconst 0, 1) := by decide +kernel
theorem dX0_sumAtOnce_27 : decode cX0_sumAtOnce 27 = .ok (.istore_n 2, 1) := by decide +kernel
theorem dX0_sumAtOnce_28 : decode cX0_sumAtOnce 28 = .ok (.iconst 0, 1) := by decide +kernel
theorem dX0_sumAtOnce_29 : decode cX0_sumAtOnce 29 = .ok (.istore_n 3, 1) := by decide +kernel
theorem dX0_sumAtOnce_30 : decode cX0_sumAtOnce 30 = .ok (.iload_n 3, 1) := by decide +kernel
theorem dX0_sumAtOnce_31 : decode cX0_sumAtOnce 31 = .ok (.bipush 40, 2) := by decide +kernel
theorem dX0_sumAtOnce_33 : decode cX0_sumAtOnce 33 = .ok (.if_icmp .ge 28, 3) := by decide +kernel
theorem dX0_sumAtOnce_36 : decode cX0_sumAtOnce 36 = .ok (.aload_n 0, 1) := by decide +kernel
theorem dX0_sumAtOnce_37 : decode cX0_sumAtOnce 37 = .ok (.iload_n 3, 1) := by decide +kernel
theorem dX0_sumAtOnce_38 : decode cX0_sumAtOnce 38 = .ok (.iload_n 1, 1) := by decide +kernel
theorem dX0_sumAtOnce_39 : decode cX0_sumAtOnce 39 = .ok (.invokevirtual 168, 3) := by decide +kernel
theorem dX0_sumAtOnce_42 : decode cX0_sumAtOnce 42 = .ok (.istore 4, 2) := by decide +kernel
theorem dX0_sumAtOnce_44 : decode cX0_sumAtOnce 44 = .ok (.iload 4, 2) := by decide +kernel
theorem dX0_sumAtOnce_46 : decode cX0_sumAtOnce 46 = .ok (.iconst (-1), 1) := by decide +kernel
theorem dX0_sumAtOnce_47 : decode cX0_sumAtOnce 47 = .ok (.if_icmp .eq 8, 3) := by decide +kernel
theorem dX0_sumAtOnce_50 : decode cX0_sumAtOnce 50 = .ok (.iload_n 2, 1) := by decide +kernel
theorem dX0_sumAtOnce_51 : decode cX0_sumAtOnce 51 = .ok (.iload 4, 2) := by decide +kernel
theorem dX0_sumAtOnce_53 : decode cX0_sumAtOnce 53 = .ok (.iadd, 1) := by decide +kernel
theorem dX0_sumAtOnce_54 : decode cX0_sumAtOnce 54 = .ok (.istore_n 2, 1) := by decide +kernel
theorem dX0_sumAtOnce_55 : decode cX0_sumAtOnce 55 = .ok (.iinc 3 1, 3) := by decide +kernel
theorem dX0_sumAtOnce_58 : decode cX0_sumAtOnce 58 = .ok (.goto (-28), 3) := by decide +kernel
theorem dX0_sumAtOnce_61 : decode cX0_sumAtOnce 61 = .ok (.iload_n 2, 1) := by decide +kernel
theorem dX0_sumAtOnce_62 : decode cX0_sumAtOnce 62 = .ok (.ireturn, 1) := by decide +kernel
theorem dX0_isWithin_0 : decode cX0_isWithin 0 = .ok (.iload_n 0, 1) := by decide +kernel
theorem dX0_isWithin_1 : decode cX0_isWithin 1 = .ok (.iload_n 1, 1) := by decide +kernel
theorem dX0_isWithin_2 : decode cX0_isWithin 2 = .ok (.if_icmp .lt 12, 3) := by decide +kernel
theorem dX0_isWithin_5 : decode cX0_isWithin 5 = .ok (.iload_n 0, 1) := by decide +kernel
theorem dX0_isWithin_6 : decode cX0_isWithin 6 = .ok (.iload_n 2, 1) := by decide +kernel
theorem dX0_isWithin_7 : decode cX0_isWithin 7 = .ok (.if_icmp .gt 7, 3) := by decide +kernel
theorem dX0_isWithin_10 : decode cX0_isWithin 10 = .ok (.iconst 1, 1) := by decide +kernel
theorem dX0_isWithin_11 : decode cX0_isWithin 11 = .ok (.goto 4, 3) := by decide +kernel
theorem dX0_isWithin_14 : decode cX0_isWithin 14 = .ok (.iconst 0, 1) := by decide +kernel
theorem dX0_isWithin_15 : decode cX0_isWithin 15 = .ok (.ireturn, 1) := by decide +kernel
theorem dX0_isKey_0 : decode cX0_isKey 0 = .ok (.iload_n 0, 1) := by decide +kernel
theorem dX0_isKey_1 : decode cX0_isKey 1 = .ok (.iconst 0, 1) := by decide +kernel
theorem dX0_isKey_2 : decode cX0_isKey 2 = .ok (.bipush 39, 2) := by decide +kernel
theorem dX0_isKey_4 : decode cX0_isKey 4 = .ok (.invokestatic 107, 3) := by decide +kernel
theorem dX0_isKey_7 : decode cX0_isKey 7 = .ok (.ireturn, 1) := by decide +kernel
theorem dX0_isColumn_0 : decode cX0_isColumn 0 = .ok (.iload_n 0, 1) := by decide +kernel
theorem dX0_isColumn_1 : decode cX0_isColumn 1 = .ok (.iconst 0, 1) := by decide +kernel
theorem dX0_isColumn_2 : decode cX0_isColumn 2 = .ok (.iconst 2, 1) := by decide +kernel
theorem dX0_isColumn_3 : decode cX0_isColumn 3 = .ok (.invokestatic 107, 3) := by decide +kernel
theorem dX0_isColumn_6 : decode cX0_isColumn 6 = .ok (.ireturn, 1) := by decide +kernel
theorem dX0_canBeWritten_0 : decode cX0_canBeWritten 0 = .ok (.iload_n 1, 1) := by decide +kernel
theorem dX0_canBeWritten_1 : decode cX0_canBeWritten 1 = .ok (.iconst 0, 1) := by decide +kernel
theorem dX0_canBeWritten_2 : decode cX0_canBeWritten 2 = .ok (.sipush 999, 3) := by decide +kernel
theorem dX0_canBeWritten_5 : decode cX0_canBeWritten 5 = .ok (.invokestatic 107, 3) := by decide +kernel
theorem dX0_canBeWritten_8 : decode cX0_canBeWritten 8 = .ok (.ifCond .eq 34, 3) := by decide +kernel
theorem dX0_canBeWritten_11 : decode cX0_canBeWritten 11 = .ok (.iload_n 2, 1) := by decide +kernel
theorem dX0_canBeWritten_12 : decode cX0_canBeWritten 12 = .ok (.iconst 0, 1) := by decide +kernel
theorem dX0_canBeWritten_13 : decode cX0_canBeWritten 13 = .ok (.sipush 999, 3) := by decide +kernel
theorem dX0_canBeWritten_16 : decode cX0_canBeWritten 16 = .ok (.invokestatic 107, 3) := by decide +kernel
theorem dX0_canBeWritten_19 : decode cX0_canBeWritten 19 = .ok (.ifCond .eq 23, 3) := by decide +kernel
theorem dX0_canBeWritten_22 : decode cX0_canBeWritten 22 = .ok (.aload_n 0, 1) := by decide +kernel
theorem dX0_canBeWritten_23 : decode cX0_canBeWritten 23 = .ok (.getfield 34, 3) := by decide +kernel
theorem dX0_canBeWritten_26 : decode cX0_canBeWritten 26 = .ok (.iconst 2, 1) := by decide +kernel
theorem dX0_canBeWritten_27 : decode cX0_canBeWritten 27 = .ok (.if_icmp .ne 11, 3) := by decide +kernel
theorem dX0_canBeWritten_30 : decode cX0_canBeWritten 30 = .ok (.aload_n 0, 1) := by decide +kernel
theorem dX0_canBeWritten_31 : decode cX0_canBeWritten 31 = .ok (.iload_n 2, 1) := by decide +kernel
theorem dX0_canBeWritten_32 : decode cX0_canBeWritten 32 = .ok (.invokevirtual 171, 3) := by decide +kernel
theorem dX0_canBeWritten_35 : decode cX0_canBeWritten 35 = .ok (.ifCond .eq 7, 3) := by decide +kernel
theorem dX0_canBeWritten_38 : decode cX0_canBeWritten 38 = .ok (.iconst 1, 1) := by decide +kernel
theorem dX0_canBeWritten_39 : decode cX0_canBeWritten 39 = .ok (.goto 4, 3) := by decide +kernel
theorem dX0_canBeWritten_42 : decode cX0_canBeWritten 42 = .ok (.iconst 0, 1) := by decide +kernel
theorem dX0_canBeWritten_43 : decode cX0_canBeWritten 43 = .ok (.ireturn, 1) := by decide +kernel
theorem dX0_isInOld_0 : decode cX0_isInOld 0 = .ok (.aload_n 0, 1) := by decide +kernel
theorem dX0_isInOld_1 : decode cX0_isInOld 1 = .ok (.getfield 9, 3) := by decide +kernel
theorem dX0_isInOld_4 : decode cX0_isInOld 4 = .ok (.iload_n 1, 1) := by decide +kernel
theorem dX0_isInOld_5 : decode cX0_isInOld 5 = .ok (.iaload, 1) := by decide +kernel
theorem dX0_isInOld_6 : decode cX0_isInOld 6 = .ok (.iconst (-1), 1) := by decide +kernel
theorem dX0_isInOld_7 : decode cX0_isInOld 7 = .ok (.if_icmp .eq 7, 3) := by decide +kernel
theorem dX0_isInOld_10 : decode cX0_isInOld 10 = .ok (.iconst 1, 1) := by decide +kernel
theorem dX0_isInOld_11 : decode cX0_isInOld 11 = .ok (.goto 4, 3) := by decide +kernel
theorem dX0_isInOld_14 : decode cX0_isInOld 14 = .ok (.iconst 0, 1) := by decide +kernel
theorem dX0_isInOld_15 : decode cX0_isInOld 15 = .ok (.ireturn, 1) := by decide +kernel
theorem dX0_isInShadow_0 : decode cX0_isInShadow 0 = .ok (.aload_n 0, 1) := by decide +kernel
theorem dX0_isInShadow_1 : decode cX0_isInShadow 1 = .ok (.getfield 18, 3) := by decide +kernel
theorem dX0_isInShadow_4 : decode cX0_isInShadow 4 = .ok (.iconst 0, 1) := by decide +kernel
theorem dX0_isInShadow_5 : decode cX0_isInShadow 5 = .ok (.aaload, 1) := by decide +kernel
theorem dX0_isInShadow_6 : decode cX0_isInShadow 6 = .ok (.iload_n 1, 1) := by decide +kernel
theorem dX0_isInShadow_7 : decode cX0_isInShadow 7 = .ok (.iaload, 1) := by decide +kernel
theorem dX0_isInShadow_8 : decode cX0_isInShadow 8 = .ok (.iconst (-1), 1) := by decide +kernel
theorem dX0_isInShadow_9 : decode cX0_isInShadow 9 = .ok (.if_icmp .eq 7, 3) := by decide +kernel
theorem dX0_isInShadow_12 : decode cX0_isInShadow 12 = .ok (.iconst 1, 1) := by decide +kernel
theorem dX0_isInShadow_13 : decode cX0_isInShadow 13 = .ok (.goto 4, 3) := by decide +kernel
theorem dX0_isInShadow_16 : decode cX0_isInShadow 16 = .ok (.iconst 0, 1) := by decide +kernel
theorem dX0_isInShadow_17 : decode cX0_isInShadow 17 = .ok (.ireturn, 1) := by decide +kernel
theorem dX0_isSeen_0 : decode cX0_isSeen 0 = .ok (.aload_n 0, 1) := by decide +kernel
theorem dX0_isSeen_1 : decode cX0_isSeen 1 = .ok (.iload_n 1, 1) := by decide +kernel
theorem dX0_isSeen_2 : decode cX0_isSeen 2 = .ok (.invokevirtual 174, 3) := by decide +kernel
theorem dX0_isSeen_5 : decode cX0_isSeen 5 = .ok (.ifCond .eq 23, 3) := by decide +kernel
theorem dX0_isSeen_8 : decode cX0_isSeen 8 = .ok (.aload_n 0, 1) := by decide +kernel
theorem dX0_isSeen_9 : decode cX0_isSeen 9 = .ok (.getfield 34, 3) := by decide +kernel
theorem dX0_isSeen_12 : decode cX0_isSeen 12 = .ok (.iconst 2, 1) := by decide +kernel
theorem dX0_isSeen_13 : decode cX0_isSeen 13 = .ok (.if_icmp .ne 11, 3) := by decide +kernel
theorem dX0_isSeen_16 : decode cX0_isSeen 16 = .ok (.aload_n 0, 1) := by decide +kernel
theorem dX0_isSeen_17 : decode cX0_isSeen 17 = .ok (.iload_n 1, 1) := by decide +kernel
theorem dX0_isSeen_18 : decode cX0_isSeen 18 = .ok (.invokevirtual 160, 3) := by decide +kernel
theorem dX0_isSeen_21 : decode cX0_isSeen 21 = .ok (.ifCond .eq 7, 3) := by decide +kernel
theorem dX0_isSeen_24 : decode cX0_isSeen 24 = .ok (.iconst 1, 1) := by decide +kernel
theorem dX0_isSeen_25 : decode cX0_isSeen 25 = .ok (.goto 4, 3) := by decide +kernel
theorem dX0_isSeen_28 : decode cX0_isSeen 28 = .ok (.iconst 0, 1) := by decide +kernel
theorem dX0_isSeen_29 : decode cX0_isSeen 29 = .ok (.ireturn, 1) := by decide +kernel
theorem dX0_rowAsNumber_0 : decode cX0_rowAsNumber 0 = .ok (.sipush 1000, 3) := by decide +kernel
theorem dX0_rowAsNumber_3 : decode cX0_rowAsNumber 3 = .ok (.aload_n 0, 1) := by decide +kernel
theorem dX0_rowAsNumber_4 : decode cX0_rowAsNumber 4 = .ok (.getfield 9, 3) := by decide +kernel
theorem dX0_rowAsNumber_7 : decode cX0_rowAsNumber 7 = .ok (.iload_n 1, 1) := by decide +kernel
theorem dX0_rowAsNumber_8 : decode cX0_rowAsNumber 8 = .ok (.iaload, 1) := by decide +kernel
theorem dX0_rowAsNumber_9 : decode cX0_rowAsNumber 9 = .ok (.imul, 1) := by decide +kernel
theorem dX0_rowAsNumber_10 : decode cX0_rowAsNumber 10 = .ok (.aload_n 0, 1) := by decide +kernel
theorem dX0_rowAsNumber_11 : decode cX0_rowAsNumber 11 = .ok (.getfield 13, 3) := by decide +kernel
theorem dX0_rowAsNumber_14 : decode cX0_rowAsNumber 14 = .ok (.iload_n 1, 1) := by decide +kernel
theorem dX0_rowAsNumber_15 : decode cX0_rowAsNumber 15 = .ok (.iaload, 1) := by decide +kernel
theorem dX0_rowAsNumber_16 : decode cX0_rowAsNumber 16 = .ok (.iadd, 1) := by decide +kernel
theorem dX0_rowAsNumber_17 : decode cX0_rowAsNumber 17 = .ok (.ireturn, 1) := by decide +kernel
theorem dX0_putRow_0 : decode cX0_putRow 0 = .ok (.aload_n 0, 1) := by decide +kernel
theorem dX0_putRow_1 : decode cX0_putRow 1 = .ok (.getfield 9, 3) := by decide +kernel
theorem dX0_putRow_4 : decode cX0_putRow 4 = .ok (.iload_n 1, 1) := by decide +kernel
theorem dX0_putRow_5 : decode cX0_putRow 5 = .ok (.iload_n 2, 1) := by decide +kernel
theorem dX0_putRow_6 : decode cX0_putRow 6 = .ok (.iastore, 1) := by decide +kernel
theorem dX0_putRow_7 : decode cX0_putRow 7 = .ok (.aload_n 0, 1) := by decide +kernel
theorem dX0_putRow_8 : decode cX0_putRow 8 = .ok (.getfield 13, 3) := by decide +kernel
theorem dX0_putRow_11 : decode cX0_putRow 11 = .ok (.iload_n 1, 1) := by decide +kernel
theorem dX0_putRow_12 : decode cX0_putRow 12 = .ok (.iload_n 3, 1) := by decide +kernel
theorem dX0_putRow_13 : decode cX0_putRow 13 = .ok (.iastore, 1) := by decide +kernel
theorem dX0_putRow_14 : decode cX0_putRow 14 = .ok (.return_, 1) := by decide +kernel
theorem dX0_removeRow_0 : decode cX0_removeRow 0 = .ok (.aload_n 0, 1) := by decide +kernel
theorem dX0_removeRow_1 : decode cX0_removeRow 1 = .ok (.iload_n 1, 1) := by decide +kernel
theorem dX0_removeRow_2 : decode cX0_removeRow 2 = .ok (.iconst (-1), 1) := by decide +kernel
theorem dX0_removeRow_3 : decode cX0_removeRow 3 = .ok (.iconst (-1), 1) := by decide +kernel
theorem dX0_removeRow_4 : decode cX0_removeRow 4 = .ok (.invokevirtual 72, 3) := by decide +kernel
theorem dX0_removeRow_7 : decode cX0_removeRow 7 = .ok (.return_, 1) := by decide +kernel
theorem dX0_removeRowsWithoutShadow_0 : decode cX0_removeRowsWithoutShadow 0 = .ok (.iconst 0, 1) := by decide +kernel
theorem dX0_removeRowsWithoutShadow_1 : decode cX0_removeRowsWithoutShadow 1 = .ok (.istore_n 1, 1) := by decide +kernel
theorem dX0_removeRowsWithoutShadow_2 : decode cX0_removeRowsWithoutShadow 2 = .ok (.iconst 0, 1) := by decide +kernel
theorem dX0_removeRowsWithoutShadow_3 : decode cX0_removeRowsWithoutShadow 3 = .ok (.istore_n 2, 1) := by decide +kernel
theorem dX0_removeRowsWithoutShadow_4 : decode cX0_removeRowsWithoutShadow 4 = .ok (.iload_n 2, 1) := by decide +kernel
theorem dX0_removeRowsWithoutShadow_5 : decode cX0_removeRowsWithoutShadow 5 = .ok (.bipush 40, 2) := by decide +kernel
theorem dX0_removeRowsWithoutShadow_7 : decode cX0_removeRowsWithoutShadow 7 = .ok (.if_icmp .ge 33, 3) := by decide +kernel
theorem dX0_removeRowsWithoutShadow_10 : decode cX0_removeRowsWithoutShadow 10 = .ok (.aload_n 0, 1) := by decide +kernel
theorem dX0_removeRowsWithoutShadow_11 : decode cX0_removeRowsWithoutShadow 11 = .ok (.iload_n 2, 1) := by decide +kernel
theorem dX0_removeRowsWithoutShadow_12 : decode cX0_removeRowsWithoutShadow 12 = .ok (.invokevirtual 174, 3) := by decide +kernel
theorem dX0_removeRowsWithoutShadow_15 : decode cX0_removeRowsWithoutShadow 15 = .ok (.ifCond .eq 19, 3) := by decide +kernel
theorem dX0_removeRowsWithoutShadow_18 : decode cX0_removeRowsWithoutShadow 18 = .ok (.aload_n 0, 1) := by decide +kernel
theorem dX0_removeRowsWithoutShadow_19 : decode cX0_removeRowsWithoutShadow 19 = .ok (.iload_n 2, 1) := by decide +kernel
theorem dX0_removeRowsWithoutShadow_20 : decode cX0_removeRowsWithoutShadow 20 = .ok (.invokevirtual 160, 3) := by decide +kernel
theorem dX0_removeRowsWithoutShadow_23 : decode cX0_removeRowsWithoutShadow 23 = .ok (.ifCond .ne 11, 3) := by decide +kernel
theorem dX0_removeRowsWithoutShadow_26 : decode cX0_removeRowsWithoutShadow 26 = .ok (.aload_n 0, 1) := by decide +kernel
theorem dX0_removeRowsWithoutShadow_27 : decode cX0_removeRowsWithoutShadow 27 = .ok (.iload_n 2, 1) := by decide +kernel
theorem dX0_removeRowsWithoutShadow_28 : decode cX0_removeRowsWithoutShadow 28 = .ok (.invokevirtual 89, 3) := by decide +kernel
theorem dX0_removeRowsWithoutShadow_31 : decode cX0_removeRowsWithoutShadow 31 = .ok (.iinc 1 1, 3) := by decide +kernel
theorem dX0_removeRowsWithoutShadow_34 : decode cX0_removeRowsWithoutShadow 34 = .ok (.iinc 2 1, 3) := by decide +kernel
theorem dX0_removeRowsWithoutShadow_37 : decode cX0_removeRowsWithoutShadow 37 = .ok (.goto (-33), 3) := by decide +kernel
theorem dX0_removeRowsWithoutShadow_40 : decode cX0_removeRowsWithoutShadow 40 = .ok (.iload_n 1, 1) := by decide +kernel
theorem dX0_removeRowsWithoutShadow_41 : decode cX0_removeRowsWithoutShadow 41 = .ok (.ireturn, 1) := by decide +kernel
theorem dX0_fits_0 : decode cX0_fits 0 = .ok (.aload_n 0, 1) := by decide +kernel
theorem dX0_fits_1 : decode cX0_fits 1 = .ok (.getfield 115, 3) := by decide +kernel
theorem dX0_fits_4 : decode cX0_fits 4 = .ok (.iconst 1, 1) := by decide +kernel
theorem dX0_fits_5 : decode cX0_fits 5 = .ok (.if_icmp .ne 11, 3) := by decide +kernel
theorem dX0_fits_8 : decode cX0_fits 8 = .ok (.iload_n 1, 1) := by decide +kernel
theorem dX0_fits_9 : decode cX0_fits 9 = .ok (.aload_n 0, 1) := by decide +kernel
theorem dX0_fits_10 : decode cX0_fits 10 = .ok (.getfield 118, 3) := by decide +kernel
theorem dX0_fits_13 : decode cX0_fits 13 = .ok (.if_icmp .gt 7, 3) := by decide +kernel
theorem dX0_fits_16 : decode cX0_fits 16 = .ok (.iconst 1, 1) := by decide +kernel
theorem dX0_fits_17 : decode cX0_fits 17 = .ok (.goto 4, 3) := by decide +kernel
theorem dX0_fits_20 : decode cX0_fits 20 = .ok (.iconst 0, 1) := by decide +kernel
theorem dX0_fits_21 : decode cX0_fits 21 = .ok (.ireturn, 1) := by decide +kernel
theorem dX0_alteredColumn_0 : decode cX0_alteredColumn 0 = .ok (.iload_n 3, 1) := by decide +kernel
theorem dX0_alteredColumn_1 : decode cX0_alteredColumn 1 = .ok (.lookupswitch 50 #[(0, 27), (1, 43)], 27) := by decide +kernel
theorem dX0_alteredColumn_28 : decode cX0_alteredColumn 28 = .ok (.aload_n 0, 1) := by decide +kernel
theorem dX0_alteredColumn_29 : decode cX0_alteredColumn 29 = .ok (.getfield 115, 3) := by decide +kernel
theorem dX0_alteredColumn_32 : decode cX0_alteredColumn 32 = .ok (.ifCond .ne 10, 3) := by decide +kernel
theorem dX0_alteredColumn_35 : decode cX0_alteredColumn 35 = .ok (.iload_n 1, 1) := by decide +kernel
theorem dX0_alteredColumn_36 : decode cX0_alteredColumn 36 = .ok (.bipush 100, 2) := by decide +kernel
theorem dX0_alteredColumn_38 : decode cX0_alteredColumn 38 = .ok (.idiv, 1) := by decide +kernel
theorem dX0_alteredColumn_39 : decode cX0_alteredColumn 39 = .ok (.goto 4, 3) := by decide +kernel
theorem dX0_alteredColumn_42 : decode cX0_alteredColumn 42 = .ok (.iload_n 1, 1) := by decide +kernel
theorem dX0_alteredColumn_43 : decode cX0_alteredColumn 43 = .ok (.ireturn, 1) := by decide +kernel
theorem dX0_alteredColumn_44 : decode cX0_alteredColumn 44 = .ok (.aload_n 0, 1) := by decide +kernel
theorem dX0_alteredColumn_45 : decode cX0_alteredColumn 45 = .ok (.iload_n 1, 1) := by decide +kernel
theorem dX0_alteredColumn_46 : decode cX0_alteredColumn 46 = .ok (.iload_n 2, 1) := by decide +kernel
theorem dX0_alteredColumn_47 : decode cX0_alteredColumn 47 = .ok (.invokevirtual 177, 3) := by decide +kernel
theorem dX0_alteredColumn_50 : decode cX0_alteredColumn 50 = .ok (.ireturn, 1) := by decide +kernel
theorem dX0_alteredColumn_51 : decode cX0_alteredColumn 51 = .ok (.aload_n 0, 1) := by decide +kernel
theorem dX0_alteredColumn_52 : decode cX0_alteredColumn 52 = .ok (.iload_n 2, 1) := by decide +kernel
theorem dX0_alteredColumn_53 : decode cX0_alteredColumn 53 = .ok (.invokevirtual 180, 3) := by decide +kernel
theorem dX0_alteredColumn_56 : decode cX0_alteredColumn 56 = .ok (.ireturn, 1) := by decide +kernel
theorem dX0_alteredMiddle_0 : decode cX0_alteredMiddle 0 = .ok (.aload_n 0, 1) := by decide +kernel
theorem dX0_alteredMiddle_1 : decode cX0_alteredMiddle 1 = .ok (.getfield 115, 3) := by decide +kernel
theorem dX0_alteredMiddle_4 : decode cX0_alteredMiddle 4 = .ok (.lookupswitch 35 #[(0, 28), (1, 33)], 28) := by decide +kernel
theorem dX0_alteredMiddle_32 : decode cX0_alteredMiddle 32 = .ok (.iload_n 1, 1) := by decide +kernel
theorem dX0_alteredMiddle_33 : decode cX0_alteredMiddle 33 = .ok (.bipush 100, 2) := by decide +kernel
theorem dX0_alteredMiddle_35 : decode cX0_alteredMiddle 35 = .ok (.irem, 1) := by decide +kernel
theorem dX0_alteredMiddle_36 : decode cX0_alteredMiddle 36 = .ok (.ireturn, 1) := by decide +kernel
theorem dX0_alteredMiddle_37 : decode cX0_alteredMiddle 37 = .ok (.iload_n 2, 1) := by decide +kernel
theorem dX0_alteredMiddle_38 : decode cX0_alteredMiddle 38 = .ok (.ireturn, 1) := by decide +kernel
theorem dX0_alteredMiddle_39 : decode cX0_alteredMiddle 39 = .ok (.iload_n 2, 1) := by decide +kernel
theorem dX0_alteredMiddle_40 : decode cX0_alteredMiddle 40 = .ok (.aload_n 0, 1) := by decide +kernel
theorem dX0_alteredMiddle_41 : decode cX0_alteredMiddle 41 = .ok (.getfield 118, 3) := by decide +kernel
theorem dX0_alteredMiddle_44 : decode cX0_alteredMiddle 44 = .ok (.imul, 1) := by decide +kernel
theorem dX0_alteredMiddle_45 : decode cX0_alteredMiddle 45 = .ok (.ireturn, 1) := by decide +kernel
theorem dX0_alteredLast_0 : decode cX0_alteredLast 0 = .ok (.aload_n 0, 1) := by decide +kernel
theorem dX0_alteredLast_1 : decode cX0_alteredLast 1 = .ok (.getfield 115, 3) := by decide +kernel
theorem dX0_alteredLast_4 : decode cX0_alteredLast 4 = .ok (.lookupswitch 32 #[(0, 28), (1, 30)], 28) := by decide +kernel
theorem dX0_alteredLast_32 : decode cX0_alteredLast 32 = .ok (.iload_n 1, 1) := by decide +kernel
theorem dX0_alteredLast_33 : decode cX0_alteredLast 33 = .ok (.ireturn, 1) := by decide +kernel
theorem dX0_alteredLast_34 : decode cX0_alteredLast 34 = .ok (.iconst 0, 1) := by decide +kernel
theorem dX0_alteredLast_35 : decode cX0_alteredLast 35 = .ok (.ireturn, 1) := by decide +kernel
theorem dX0_alteredLast_36 : decode cX0_alteredLast 36 = .ok (.iload_n 1, 1) := by decide +kernel
theorem dX0_alteredLast_37 : decode cX0_alteredLast 37 = .ok (.invokestatic 183, 3) := by decide +kernel
theorem dX0_alteredLast_40 : decode cX0_alteredLast 40 = .ok (.ireturn, 1) := by decide +kernel
theorem dX0_digits_0 : decode cX0_digits 0 = .ok (.iload_n 0, 1) := by decide +kernel
theorem dX0_digits_1 : decode cX0_digits 1 = .ok (.bipush 10, 2) := by decide +kernel
theorem dX0_digits_3 : decode cX0_digits 3 = .ok (.if_icmp .ge 5, 3) := by decide +kernel
theorem dX0_digits_6 : decode cX0_digits 6 = .ok (.iconst 1, 1) := by decide +kernel
theorem dX0_digits_7 : decode cX0_digits 7 = .ok (.ireturn, 1) := by decide +kernel
theorem dX0_digits_8 : decode cX0_digits 8 = .ok (.iload_n 0, 1) := by decide +kernel
theorem dX0_digits_9 : decode cX0_digits 9 = .ok (.bipush 100, 2) := by decide +kernel
theorem dX0_digits_11 : decode cX0_digits 11 = .ok (.if_icmp .ge 7, 3) := by decide +kernel
theorem dX0_digits_14 : decode cX0_digits 14 = .ok (.iconst 2, 1) := by decide +kernel
theorem dX0_digits_15 : decode cX0_digits 15 = .ok (.goto 4, 3) := by decide +kernel
theorem dX0_digits_18 : decode cX0_digits 18 = .ok (.iconst 3, 1) := by decide +kernel
theorem dX0_digits_19 : decode cX0_digits 19 = .ok (.ireturn, 1) := by decide +kernel
theorem dX0_broughtColumn_0 : decode cX0_broughtColumn 0 = .ok (.aload_n 0, 1) := by decide +kernel
theorem dX0_broughtColumn_1 : decode cX0_broughtColumn 1 = .ok (.iload_n 1, 1) := by decide +kernel
theorem dX0_broughtColumn_2 : decode cX0_broughtColumn 2 = .ok (.invokevirtual 174, 3) := by decide +kernel
theorem dX0_broughtColumn_5 : decode cX0_broughtColumn 5 = .ok (.ifCond .eq 16, 3) := by decide +kernel
theorem dX0_broughtColumn_8 : decode cX0_broughtColumn 8 = .ok (.aload_n 0, 1) := by decide +kernel
theorem dX0_broughtColumn_9 : decode cX0_broughtColumn 9 = .ok (.aload_n 0, 1) := by decide +kernel
theorem dX0_broughtColumn_10 : decode cX0_broughtColumn 10 = .ok (.getfield 13, 3) := by decide +kernel
theorem dX0_broughtColumn_13 : decode cX0_broughtColumn 13 = .ok (.iload_n 1, 1) := by decide +kernel
theorem dX0_broughtColumn_14 : decode cX0_broughtColumn 14 = .ok (.iaload, 1) := by decide +kernel
theorem dX0_broughtColumn_15 : decode cX0_broughtColumn 15 = .ok (.invokevirtual 171, 3) := by decide +kernel
theorem dX0_broughtColumn_18 : decode cX0_broughtColumn 18 = .ok (.ifCond .ne 5, 3) := by decide +kernel
theorem dX0_broughtColumn_21 : decode cX0_broughtColumn 21 = .ok (.iconst (-1), 1) := by decide +kernel
theorem dX0_broughtColumn_22 : decode cX0_broughtColumn 22 = .ok (.ireturn, 1) := by decide +kernel
theorem dX0_broughtColumn_23 : decode cX0_broughtColumn 23 = .ok (.aload_n 0, 1) := by decide +kernel
theorem dX0_broughtColumn_24 : decode cX0_broughtColumn 24 = .ok (.aload_n 0, 1) := by decide +kernel
theorem dX0_broughtColumn_25 : decode cX0_broughtColumn 25 = .ok (.getfield 9, 3) := by decide +kernel
theorem dX0_broughtColumn_28 : decode cX0_broughtColumn 28 = .ok (.iload_n 1, 1) := by decide +kernel
theorem dX0_broughtColumn_29 : decode cX0_broughtColumn 29 = .ok (.iaload, 1) := by decide +kernel
theorem dX0_broughtColumn_30 : decode cX0_broughtColumn 30 = .ok (.aload_n 0, 1) := by decide +kernel
theorem dX0_broughtColumn_31 : decode cX0_broughtColumn 31 = .ok (.getfield 13, 3) := by decide +kernel
theorem dX0_broughtColumn_34 : decode cX0_broughtColumn 34 = .ok (.iload_n 1, 1) := by decide +kernel
theorem dX0_broughtColumn_35 : decode cX0_broughtColumn 35 = .ok (.iaload, 1) := by decide +kernel
theorem dX0_broughtColumn_36 : decode cX0_broughtColumn 36 = .ok (.iload_n 2, 1) := by decide +kernel
theorem dX0_broughtColumn_37 : decode cX0_broughtColumn 37 = .ok (.invokevirtual 186, 3) := by decide +kernel
theorem dX0_broughtColumn_40 : decode cX0_broughtColumn 40 = .ok (.ireturn, 1) := by decide +kernel
theorem dX0_bring_0 : decode cX0_bring 0 = .ok (.iconst 0, 1) := by decide +kernel
theorem dX0_bring_1 : decode cX0_bring 1 = .ok (.istore_n 2, 1) := by decide +kernel
theorem dX0_bring_2 : decode cX0_bring 2 = .ok (.iload_n 2, 1) := by decide +kernel
theorem dX0_bring_3 : decode cX0_bring 3 = .ok (.iconst 3, 1) := by decide +kernel
theorem dX0_bring_4 : decode cX0_bring 4 = .ok (.if_icmp .ge 23, 3) := by decide +kernel
theorem dX0_bring_7 : decode cX0_bring 7 = .ok (.aload_n 0, 1) := by decide +kernel
theorem dX0_bring_8 : decode cX0_bring 8 = .ok (.getfield 18, 3) := by decide +kernel
theorem dX0_bring_11 : decode cX0_bring 11 = .ok (.iload_n 2, 1) := by decide +kernel
theorem dX0_bring_12 : decode cX0_bring 12 = .ok (.aaload, 1) := by decide +kernel
theorem dX0_bring_13 : decode cX0_bring 13 = .ok (.iload_n 1, 1) := by decide +kernel
theorem dX0_bring_14 : decode cX0_bring 14 = .ok (.aload_n 0, 1) := by decide +kernel
theorem dX0_bring_15 : decode cX0_bring 15 = .ok (.iload_n 1, 1) := by decide +kernel
theorem dX0_bring_16 : decode cX0_bring 16 = .ok (.iload_n 2, 1) := by decide +kernel
theorem dX0_bring_17 : decode cX0_bring 17 = .ok (.invokevirtual 168, 3) := by decide +kernel
theorem dX0_bring_20 : decode cX0_bring 20 = .ok (.iastore, 1) := by decide +kernel
theorem dX0_bring_21 : decode cX0_bring 21 = .ok (.iinc 2 1, 3) := by decide +kernel
theorem dX0_bring_24 : decode cX0_bring 24 = .ok (.goto (-22), 3) := by decide +kernel
theorem dX0_bring_27 : decode cX0_bring 27 = .ok (.aload_n 0, 1) := by decide +kernel
theorem dX0_bring_28 : decode cX0_bring 28 = .ok (.getfield 21, 3) := by decide +kernel
theorem dX0_bring_31 : decode cX0_bring 31 = .ok (.iload_n 1, 1) := by decide +kernel
theorem dX0_bring_32 : decode cX0_bring 32 = .ok (.aload_n 0, 1) := by decide +kernel
theorem dX0_bring_33 : decode cX0_bring 33 = .ok (.iload_n 1, 1) := by decide +kernel
theorem dX0_bring_34 : decode cX0_bring 34 = .ok (.invokevirtual 174, 3) := by decide +kernel
theorem dX0_bring_37 : decode cX0_bring 37 = .ok (.ifCond .eq 20, 3) := by decide +kernel
theorem dX0_bring_40 : decode cX0_bring 40 = .ok (.aload_n 0, 1) := by decide +kernel
theorem dX0_bring_41 : decode cX0_bring 41 = .ok (.aload_n 0, 1) := by decide +kernel
theorem dX0_bring_42 : decode cX0_bring 42 = .ok (.getfield 13, 3) := by decide +kernel
theorem dX0_bring_45 : decode cX0_bring 45 = .ok (.iload_n 1, 1) := by decide +kernel
theorem dX0_bring_46 : decode cX0_bring 46 = .ok (.iaload, 1) := by decide +kernel
theorem dX0_bring_47 : decode cX0_bring 47 = .ok (.invokevirtual 171, 3) := by decide +kernel
theorem dX0_bring_50 : decode cX0_bring 50 = .ok (.ifCond .ne 7, 3) := by decide +kernel
theorem dX0_bring_53 : decode cX0_bring 53 = .ok (.iconst 1, 1) := by decide +kernel
theorem dX0_bring_54 : decode cX0_bring 54 = .ok (.goto 4, 3) := by decide +kernel
theorem dX0_bring_57 : decode cX0_bring 57 = .ok (.iconst 0, 1) := by decide +kernel
theorem dX0_bring_58 : decode cX0_bring 58 = .ok (.bastore, 1) := by decide +kernel
theorem dX0_bring_59 : decode cX0_bring 59 = .ok (.return_, 1) := by decide +kernel
theorem dX0_isBehind_0 : decode cX0_isBehind 0 = .ok (.iconst 0, 1) := by decide +kernel
theorem dX0_isBehind_1 : decode cX0_isBehind 1 = .ok (.istore_n 2, 1) := by decide +kernel
theorem dX0_isBehind_2 : decode cX0_isBehind 2 = .ok (.iload_n 2, 1) := by decide +kernel
theorem dX0_isBehind_3 : decode cX0_isBehind 3 = .ok (.iconst 3, 1) := by decide +kernel
theorem dX0_isBehind_4 : decode cX0_isBehind 4 = .ok (.if_icmp .ge 28, 3) := by decide +kernel
theorem dX0_isBehind_7 : decode cX0_isBehind 7 = .ok (.aload_n 0, 1) := by decide +kernel
theorem dX0_isBehind_8 : decode cX0_isBehind 8 = .ok (.getfield 18, 3) := by decide +kernel
theorem dX0_isBehind_11 : decode cX0_isBehind 11 = .ok (.iload_n 2, 1) := by decide +kernel
theorem dX0_isBehind_12 : decode cX0_isBehind 12 = .ok (.aaload, 1) := by decide +kernel
theorem dX0_isBehind_13 : decode cX0_isBehind 13 = .ok (.iload_n 1, 1) := by decide +kernel
theorem dX0_isBehind_14 : decode cX0_isBehind 14 = .ok (.iaload, 1) := by decide +kernel
theorem dX0_isBehind_15 : decode cX0_isBehind 15 = .ok (.aload_n 0, 1) := by decide +kernel
theorem dX0_isBehind_16 : decode cX0_isBehind 16 = .ok (.iload_n 1, 1) := by decide +kernel
theorem dX0_isBehind_17 : decode cX0_isBehind 17 = .ok (.iload_n 2, 1) := by decide +kernel
theorem dX0_isBehind_18 : decode cX0_isBehind 18 = .ok (.invokevirtual 168, 3) := by decide +kernel
theorem dX0_isBehind_21 : decode cX0_isBehind 21 = .ok (.if_icmp .eq 5, 3) := by decide +kernel
theorem dX0_isBehind_24 : decode cX0_isBehind 24 = .ok (.iconst 1, 1) := by decide +kernel
theorem dX0_isBehind_25 : decode cX0_isBehind 25 = .ok (.ireturn, 1) := by decide +kernel
theorem dX0_isBehind_26 : decode cX0_isBehind 26 = .ok (.iinc 2 1, 3) := by decide +kernel
theorem dX0_isBehind_29 : decode cX0_isBehind 29 = .ok (.goto (-27), 3) := by decide +kernel
theorem dX0_isBehind_32 : decode cX0_isBehind 32 = .ok (.iconst 0, 1) := by decide +kernel
theorem dX0_isBehind_33 : decode cX0_isBehind 33 = .ok (.ireturn, 1) := by decide +kernel
theorem dX0_followWrite_0 : decode cX0_followWrite 0 = .ok (.aload_n 0, 1) := by decide +kernel
theorem dX0_followWrite_1 : decode cX0_followWrite 1 = .ok (.getfield 34, 3) := by decide +kernel
theorem dX0_followWrite_4 : decode cX0_followWrite 4 = .ok (.iconst 1, 1) := by decide +kernel
theorem dX0_followWrite_5 : decode cX0_followWrite 5 = .ok (.if_icmp .ne 11, 3) := by decide +kernel
theorem dX0_followWrite_8 : decode cX0_followWrite 8 = .ok (.aload_n 0, 1) := by decide +kernel
theorem dX0_followWrite_9 : decode cX0_followWrite 9 = .ok (.iload_n 1, 1) := by decide +kernel
theorem dX0_followWrite_10 : decode cX0_followWrite 10 = .ok (.invokevirtual 190, 3) := by decide +kernel
theorem dX0_followWrite_13 : decode cX0_followWrite 13 = .ok (.goto 16, 3) := by decide +kernel
theorem dX0_followWrite_16 : decode cX0_followWrite 16 = .ok (.aload_n 0, 1) := by decide +kernel
theorem dX0_followWrite_17 : decode cX0_followWrite 17 = .ok (.getfield 34, 3) := by decide +kernel
theorem dX0_followWrite_20 : decode cX0_followWrite 20 = .ok (.iconst 2, 1) := by decide +kernel
theorem dX0_followWrite_21 : decode cX0_followWrite 21 = .ok (.if_icmp .ne 8, 3) := by decide +kernel
theorem dX0_followWrite_24 : decode cX0_followWrite 24 = .ok (.aload_n 0, 1) := by decide +kernel
theorem dX0_followWrite_25 : decode cX0_followWrite 25 = .ok (.iload_n 1, 1) := by decide +kernel
theorem dX0_followWrite_26 : decode cX0_followWrite 26 = .ok (.invokevirtual 193, 3) := by decide +kernel
theorem dX0_followWrite_29 : decode cX0_followWrite 29 = .ok (.return_, 1) := by decide +kernel
theorem dX0_noteKey_0 : decode cX0_noteKey 0 = .ok (.aload_n 0, 1) := by decide +kernel
theorem dX0_noteKey_1 : decode cX0_noteKey 1 = .ok (.getfield 134, 3) := by decide +kernel
theorem dX0_noteKey_4 : decode cX0_noteKey 4 = .ok (.sipush 1024, 3) := by decide +kernel
theorem dX0_noteKey_7 : decode cX0_noteKey 7 = .ok (.if_icmp .ge 23, 3) := by decide +kernel
theorem dX0_noteKey_10 : decode cX0_noteKey 10 = .ok (.aload_n 0, 1) := by decide +kernel
theorem dX0_noteKey_11 : decode cX0_noteKey 11 = .ok (.getfield 25, 3) := by decide +kernel
theorem dX0_noteKey_14 : decode cX0_noteKey 14 = .ok (.aload_n 0, 1) := by decide +kernel
theorem dX0_noteKey_15 : decode cX0_noteKey 15 = .ok (.getfield 134, 3) := by decide +kernel
theorem dX0_noteKey_18 : decode cX0_noteKey 18 = .ok (.iload_n 1, 1) := by decide +kernel
theorem dX0_noteKey_19 : decode cX0_noteKey 19 = .ok (.iastore, 1) := by decide +kernel
theorem dX0_noteKey_20 : decode cX0_noteKey 20 = .ok (.aload_n 0, 1) := by decide +kernel
theorem dX0_noteKey_21 : decode cX0_noteKey 21 = .ok (.dup, 1) := by decide +kernel
theorem dX0_noteKey_22 : decode cX0_noteKey 22 = .ok (.getfield 134, 3) := by decide +kernel
theorem dX0_noteKey_25 : decode cX0_noteKey 25 = .ok (.iconst 1, 1) := by decide +kernel
theorem dX0_noteKey_26 : decode cX0_noteKey 26 = .ok (.iadd, 1) := by decide +kernel
theorem dX0_noteKey_27 : decode cX0_noteKey 27 = .ok (.putfield 134, 3) := by decide +kernel
theorem dX0_noteKey_30 : decode cX0_noteKey 30 = .ok (.return_, 1) := by decide +kernel
theorem dX0_copyChunk_0 : decode cX0_copyChunk 0 = .ok (.aload_n 0, 1) := by decide +kernel
theorem dX0_copyChunk_1 : decode cX0_copyChunk 1 = .ok (.getfield 121, 3) := by decide +kernel
theorem dX0_copyChunk_4 : decode cX0_copyChunk 4 = .ok (.aload_n 0, 1) := by decide +kernel
theorem dX0_copyChunk_5 : decode cX0_copyChunk 5 = .ok (.getfield 38, 3) := by decide +kernel
theorem dX0_copyChunk_8 : decode cX0_copyChunk 8 = .ok (.iadd, 1) := by decide +kernel
theorem dX0_copyChunk_9 : decode cX0_copyChunk 9 = .ok (.bipush 40, 2) := by decide +kernel
theorem dX0_copyChunk_11 : decode cX0_copyChunk 11 = .ok (.invokestatic 98, 3) := by decide +kernel
theorem dX0_copyChunk_14 : decode cX0_copyChunk 14 = .ok (.istore_n 1, 1) := by decide +kernel
theorem dX0_copyChunk_15 : decode cX0_copyChunk 15 = .ok (.iload_n 1, 1) := by decide +kernel
theorem dX0_copyChunk_16 : decode cX0_copyChunk 16 = .ok (.aload_n 0, 1) := by decide +kernel
theorem dX0_copyChunk_17 : decode cX0_copyChunk 17 = .ok (.getfield 121, 3) := by decide +kernel
theorem dX0_copyChunk_20 : decode cX0_copyChunk 20 = .ok (.isub, 1) := by decide +kernel
theorem dX0_copyChunk_21 : decode cX0_copyChunk 21 = .ok (.istore_n 2, 1) := by decide +kernel
theorem dX0_copyChunk_22 : decode cX0_copyChunk 22 = .ok (.aload_n 0, 1) := by decide +kernel
theorem dX0_copyChunk_23 : decode cX0_copyChunk 23 = .ok (.getfield 121, 3) := by decide +kernel
theorem dX0_copyChunk_26 : decode cX0_copyChunk 26 = .ok (.istore_n 3, 1) := by decide +kernel
theorem dX0_copyChunk_27 : decode cX0_copyChunk 27 = .ok (.iload_n 3, 1) := by decide +kernel
theorem dX0_copyChunk_28 : decode cX0_copyChunk 28 = .ok (.iload_n 1, 1) := by decide +kernel
theorem dX0_copyChunk_29 : decode cX0_copyChunk 29 = .ok (.if_icmp .ge 14, 3) := by decide +kernel
theorem dX0_copyChunk_32 : decode cX0_copyChunk 32 = .ok (.aload_n 0, 1) := by decide +kernel
theorem dX0_copyChunk_33 : decode cX0_copyChunk 33 = .ok (.iload_n 3, 1) := by decide +kernel
theorem dX0_copyChunk_34 : decode cX0_copyChunk 34 = .ok (.invokevirtual 193, 3) := by decide +kernel
theorem dX0_copyChunk_37 : decode cX0_copyChunk 37 = .ok (.iinc 3 1, 3) := by decide +kernel
theorem dX0_copyChunk_40 : decode cX0_copyChunk 40 = .ok (.goto (-13), 3) := by decide +kernel
theorem dX0_copyChunk_43 : decode cX0_copyChunk 43 = .ok (.aload_n 0, 1) := by decide +kernel
theorem dX0_copyChunk_44 : decode cX0_copyChunk 44 = .ok (.iload_n 1, 1) := by decide +kernel
theorem dX0_copyChunk_45 : decode cX0_copyChunk 45 = .ok (.putfield 121, 3) := by decide +kernel
theorem dX0_copyChunk_48 : decode cX0_copyChunk 48 = .ok (.iload_n 2, 1) := by decide +kernel
theorem dX0_copyChunk_49 : decode cX0_copyChunk 49 = .ok (.ireturn, 1) := by decide +kernel
theorem dX0_playNotes_0 : decode cX0_playNotes 0 = .ok (.iconst 0, 1) := by decide +kernel
theorem dX0_playNotes_1 : decode cX0_playNotes 1 = .ok (.istore_n 2, 1) := by decide +kernel
theorem dX0_playNotes_2 : decode cX0_playNotes 2 = .ok (.iload_n 2, 1) := by decide +kernel
theorem dX0_playNotes_3 : decode cX0_playNotes 3 = .ok (.iload_n 1, 1) := by decide +kernel
theorem dX0_playNotes_4 : decode cX0_playNotes 4 = .ok (.if_icmp .ge 19, 3) := by decide +kernel
theorem dX0_playNotes_7 : decode cX0_playNotes 7 = .ok (.aload_n 0, 1) := by decide +kernel
theorem dX0_playNotes_8 : decode cX0_playNotes 8 = .ok (.aload_n 0, 1) := by decide +kernel
theorem dX0_playNotes_9 : decode cX0_playNotes 9 = .ok (.getfield 25, 3) := by decide +kernel
theorem dX0_playNotes_12 : decode cX0_playNotes 12 = .ok (.iload_n 2, 1) := by decide +kernel
theorem dX0_playNotes_13 : decode cX0_playNotes 13 = .ok (.iaload, 1) := by decide +kernel
theorem dX0_playNotes_14 : decode cX0_playNotes 14 = .ok (.invokevirtual 193, 3) := by decide +kernel
theorem dX0_playNotes_17 : decode cX0_playNotes 17 = .ok (.iinc 2 1, 3) := by decide +kernel
theorem dX0_playNotes_20 : decode cX0_playNotes 20 = .ok (.goto (-18), 3) := by decide +kernel
theorem dX0_playNotes_23 : decode cX0_playNotes 23 = .ok (.aload_n 0, 1) := by decide +kernel
theorem dX0_playNotes_24 : decode cX0_playNotes 24 = .ok (.dup, 1) := by decide +kernel
theorem dX0_playNotes_25 : decode cX0_playNotes 25 = .ok (.getfield 134, 3) := by decide +kernel
theorem dX0_playNotes_28 : decode cX0_playNotes 28 = .ok (.iload_n 1, 1) := by decide +kernel
theorem dX0_playNotes_29 : decode cX0_playNotes 29 = .ok (.isub, 1) := by decide +kernel
theorem dX0_playNotes_30 : decode cX0_playNotes 30 = .ok (.putfield 134, 3) := by decide +kernel
theorem dX0_playNotes_33 : decode cX0_playNotes 33 = .ok (.aload_n 0, 1) := by decide +kernel
theorem dX0_playNotes_34 : decode cX0_playNotes 34 = .ok (.getfield 25, 3) := by decide +kernel
theorem dX0_playNotes_37 : decode cX0_playNotes 37 = .ok (.iload_n 1, 1) := by decide +kernel
theorem dX0_playNotes_38 : decode cX0_playNotes 38 = .ok (.aload_n 0, 1) := by decide +kernel
theorem dX0_playNotes_39 : decode cX0_playNotes 39 = .ok (.getfield 25, 3) := by decide +kernel
theorem dX0_playNotes_42 : decode cX0_playNotes 42 = .ok (.iconst 0, 1) := by decide +kernel
theorem dX0_playNotes_43 : decode cX0_playNotes 43 = .ok (.aload_n 0, 1) := by decide +kernel
theorem dX0_playNotes_44 : decode cX0_playNotes 44 = .ok (.getfield 134, 3) := by decide +kernel
theorem dX0_playNotes_47 : decode cX0_playNotes 47 = .ok (.invokestatic 196, 3) := by decide +kernel
theorem dX0_playNotes_50 : decode cX0_playNotes 50 = .ok (.iload_n 1, 1) := by decide +kernel
theorem dX0_playNotes_51 : decode cX0_playNotes 51 = .ok (.ireturn, 1) := by decide +kernel
theorem dX0_endChange_0 : decode cX0_endChange 0 = .ok (.aload_n 0, 1) := by decide +kernel
theorem dX0_endChange_1 : decode cX0_endChange 1 = .ok (.getfield 18, 3) := by decide +kernel
theorem dX0_endChange_4 : decode cX0_endChange 4 = .ok (.astore_n 1, 1) := by decide +kernel
theorem dX0_endChange_5 : decode cX0_endChange 5 = .ok (.aload_n 1, 1) := by decide +kernel
theorem dX0_endChange_6 : decode cX0_endChange 6 = .ok (.arraylength, 1) := by decide +kernel
theorem dX0_endChange_7 : decode cX0_endChange 7 = .ok (.istore_n 2, 1) := by decide +kernel
theorem dX0_endChange_8 : decode cX0_endChange 8 = .ok (.iconst 0, 1) := by decide +kernel
theorem dX0_endChange_9 : decode cX0_endChange 9 = .ok (.istore_n 3, 1) := by decide +kernel
theorem dX0_endChange_10 : decode cX0_endChange 10 = .ok (.iload_n 3, 1) := by decide +kernel
theorem dX0_endChange_11 : decode cX0_endChange 11 = .ok (.iload_n 2, 1) := by decide +kernel
theorem dX0_endChange_12 : decode cX0_endChange 12 = .ok (.if_icmp .ge 20, 3) := by decide +kernel
theorem dX0_endChange_15 : decode cX0_endChange 15 = .ok (.aload_n 1, 1) := by decide +kernel
theorem dX0_endChange_16 : decode cX0_endChange 16 = .ok (.iload_n 3, 1) := by decide +kernel
theorem dX0_endChange_17 : decode cX0_endChange 17 = .ok (.aaload, 1) := by decide +kernel
theorem dX0_endChange_18 : decode cX0_endChange 18 = .ok (.astore 4, 2) := by decide +kernel
theorem dX0_endChange_20 : decode cX0_endChange 20 = .ok (.aload 4, 2) := by decide +kernel
theorem dX0_endChange_22 : decode cX0_endChange 22 = .ok (.iconst (-1), 1) := by decide +kernel
theorem dX0_endChange_23 : decode cX0_endChange 23 = .ok (.invokestatic 28, 3) := by decide +kernel
theorem dX0_endChange_26 : decode cX0_endChange 26 = .ok (.iinc 3 1, 3) := by decide +kernel
theorem dX0_endChange_29 : decode cX0_endChange 29 = .ok (.goto (-19), 3) := by decide +kernel
theorem dX0_endChange_32 : decode cX0_endChange 32 = .ok (.iconst 0, 1) := by decide +kernel
theorem dX0_endChange_33 : decode cX0_endChange 33 = .ok (.istore_n 1, 1) := by decide +kernel
theorem dX0_endChange_34 : decode cX0_endChange 34 = .ok (.iload_n 1, 1) := by decide +kernel
theorem dX0_endChange_35 : decode cX0_endChange 35 = .ok (.bipush 40, 2) := by decide +kernel
theorem dX0_endChange_37 : decode cX0_endChange 37 = .ok (.if_icmp .ge 16, 3) := by decide +kernel
theorem dX0_endChange_40 : decode cX0_endChange 40 = .ok (.aload_n 0, 1) := by decide +kernel
theorem dX0_endChange_41 : decode cX0_endChange 41 = .ok (.getfield 21, 3) := by decide +kernel
theorem dX0_endChange_44 : decode cX0_endChange 44 = .ok (.iload_n 1, 1) := by decide +kernel
theorem dX0_endChange_45 : decode cX0_endChange 45 = .ok (.iconst 0, 1) := by decide +kernel
theorem dX0_endChange_46 : decode cX0_endChange 46 = .ok (.bastore, 1) := by decide +kernel
theorem dX0_endChange_47 : decode cX0_endChange 47 = .ok (.iinc 1 1, 3) := by decide +kernel
theorem dX0_endChange_50 : decode cX0_endChange 50 = .ok (.goto (-16), 3) := by decide +kernel
theorem dX0_endChange_53 : decode cX0_endChange 53 = .ok (.aload_n 0, 1) := by decide +kernel
theorem dX0_endChange_54 : decode cX0_endChange 54 = .ok (.iconst 0, 1) := by decide +kernel
theorem dX0_endChange_55 : decode cX0_endChange 55 = .ok (.putfield 134, 3) := by decide +kernel
theorem dX0_endChange_58 : decode cX0_endChange 58 = .ok (.aload_n 0, 1) := by decide +kernel
theorem dX0_endChange_59 : decode cX0_endChange 59 = .ok (.iconst 0, 1) := by decide +kernel
theorem dX0_endChange_60 : decode cX0_endChange 60 = .ok (.putfield 34, 3) := by decide +kernel
theorem dX0_endChange_63 : decode cX0_endChange 63 = .ok (.return_, 1) := by decide +kernel
end
section
theorem dX1_init_0 : decode cX1_init 0 = .ok (.aload_n 0, 1) := by decide +kernel
theorem dX1_init_1 : decode cX1_init 1 = .ok (.invokespecial 1, 3) := by decide +kernel
theorem dX1_init_4 : decode cX1_init 4 = .ok (.aload_n 0, 1) := by decide +kernel
theorem dX1_init_5 : decode cX1_init 5 = .ok (.bipush 40, 2) := by decide +kernel
theorem dX1_init_7 : decode cX1_init 7 = .ok (.newarray .int, 2) := by decide +kernel
theorem dX1_init_9 : decode cX1_init 9 = .ok (.putfield 7, 3) := by decide +kernel
theorem dX1_init_12 : decode cX1_init 12 = .ok (.aload_n 0, 1) := by decide +kernel
theorem dX1_init_13 : decode cX1_init 13 = .ok (.bipush 120, 2) := by decide +kernel
theorem dX1_init_15 : decode cX1_init 15 = .ok (.newarray .int, 2) := by decide +kernel
theorem dX1_init_17 : decode cX1_init 17 = .ok (.putfield 13, 3) := by decide +kernel
theorem dX1_init_20 : decode cX1_init 20 = .ok (.aload_n 0, 1) := by decide +kernel
theorem dX1_init_21 : decode cX1_init 21 = .ok (.bipush 40, 2) := by decide +kernel
theorem dX1_init_23 : decode cX1_init 23 = .ok (.newarray .boolean, 2) := by decide +kernel
theorem dX1_init_25 : decode cX1_init 25 = .ok (.putfield 16, 3) := by decide +kernel
theorem dX1_init_28 : decode cX1_init 28 = .ok (.aload_n 0, 1) := by decide +kernel
theorem dX1_init_29 : decode cX1_init 29 = .ok (.bipush 40, 2) := by decide +kernel
theorem dX1_init_31 : decode cX1_init 31 = .ok (.newarray .boolean, 2) := by decide +kernel
theorem dX1_init_33 : decode cX1_init 33 = .ok (.putfield 20, 3) := by decide +kernel
theorem dX1_init_36 : decode cX1_init 36 = .ok (.aload_n 0, 1) := by decide +kernel
theorem dX1_init_37 : decode cX1_init 37 = .ok (.bipush 8, 2) := by decide +kernel
theorem dX1_init_39 : decode cX1_init 39 = .ok (.putfield 23, 3) := by decide +kernel
theorem dX1_init_42 : decode cX1_init 42 = .ok (.aload_n 0, 1) := by decide +kernel
theorem dX1_init_43 : decode cX1_init 43 = .ok (.bipush 10, 2) := by decide +kernel
theorem dX1_init_45 : decode cX1_init 45 = .ok (.putfield 27, 3) := by decide +kernel
theorem dX1_init_48 : decode cX1_init 48 = .ok (.aload_n 0, 1) := by decide +kernel
theorem dX1_init_49 : decode cX1_init 49 = .ok (.sipush 2000, 3) := by decide +kernel
theorem dX1_init_52 : decode cX1_init 52 = .ok (.newarray .int, 2) := by decide +kernel
theorem dX1_init_54 : decode cX1_init 54 = .ok (.putfield 30, 3) := by decide +kernel
theorem dX1_init_57 : decode cX1_init 57 = .ok (.iconst 0, 1) := by decide +kernel
theorem dX1_init_58 : decode cX1_init 58 = .ok (.istore_n 1, 1) := by decide +kernel
theorem dX1_init_59 : decode cX1_init 59 = .ok (.iload_n 1, 1) := by decide +kernel
theorem dX1_init_60 : decode cX1_init 60 = .ok (.bipush 40, 2) := by decide +kernel
theorem dX1_init_62 : decode cX1_init 62 = .ok (.if_icmp .ge 16, 3) := by decide +kernel
theorem dX1_init_65 : decode cX1_init 65 = .ok (.aload_n 0, 1) := by decide +kernel
theorem dX1_init_66 : decode cX1_init 66 = .ok (.getfield 7, 3) := by decide +kernel
theorem dX1_init_69 : decode cX1_init 69 = .ok (.iload_n 1, 1) := by decide +kernel
theorem dX1_init_70 : decode cX1_init 70 = .ok (.iconst (-1), 1) := by decide +kernel
theorem dX1_init_71 : decode cX1_init 71 = .ok (.iastore, 1) := by decide +kernel
theorem dX1_init_72 : decode cX1_init 72 = .ok (.iinc 1 1, 3) := by decide +kernel
theorem dX1_init_75 : decode cX1_init 75 = .ok (.goto (-16), 3) := by decide +kernel
theorem dX1_init_78 : decode cX1_init 78 = .ok (.return_, 1) := by decide +kernel
theorem dX1_thrown_0 : decode cX1_thrown 0 = .ok (.aload_n 0, 1) := by decide +kernel
theorem dX1_thrown_1 : decode cX1_thrown 1 = .ok (.getfield 33, 3) := by decide +kernel
theorem dX1_thrown_4 : decode cX1_thrown 4 = .ok (.ireturn, 1) := by decide +kernel
theorem dX1_can_0 : decode cX1_can 0 = .ok (.aload_n 0, 1) := by decide +kernel
theorem dX1_can_1 : decode cX1_can 1 = .ok (.iload_n 1, 1) := by decide +kernel
theorem dX1_can_2 : decode cX1_can 2 = .ok (.putfield 33, 3) := by decide +kernel
theorem dX1_can_5 : decode cX1_can 5 = .ok (.iload_n 1, 1) := by decide +kernel
theorem dX1_can_6 : decode cX1_can 6 = .ok (.ifCond .ne 7, 3) := by decide +kernel
theorem dX1_can_9 : decode cX1_can 9 = .ok (.iconst 1, 1) := by decide +kernel
theorem dX1_can_10 : decode cX1_can 10 = .ok (.goto 4, 3) := by decide +kernel
theorem dX1_can_13 : decode cX1_can 13 = .ok (.iconst 0, 1) := by decide +kernel
theorem dX1_can_14 : decode cX1_can 14 = .ok (.ireturn, 1) := by decide +kernel
theorem dX1_isIn_0 : decode cX1_isIn 0 = .ok (.iload_n 0, 1) := by decide +kernel
theorem dX1_isIn_1 : decode cX1_isIn 1 = .ok (.iload_n 1, 1) := by decide +kernel
theorem dX1_isIn_2 : decode cX1_isIn 2 = .ok (.if_icmp .lt 12, 3) := by decide +kernel
theorem dX1_isIn_5 : decode cX1_isIn 5 = .ok (.iload_n 0, 1) := by decide +kernel
theorem dX1_isIn_6 : decode cX1_isIn 6 = .ok (.iload_n 2, 1) := by decide +kernel
theorem dX1_isIn_7 : decode cX1_isIn 7 = .ok (.if_icmp .gt 7, 3) := by decide +kernel
theorem dX1_isIn_10 : decode cX1_isIn 10 = .ok (.iconst 1, 1) := by decide +kernel
theorem dX1_isIn_11 : decode cX1_isIn 11 = .ok (.goto 4, 3) := by decide +kernel
theorem dX1_isIn_14 : decode cX1_isIn 14 = .ok (.iconst 0, 1) := by decide +kernel
theorem dX1_isIn_15 : decode cX1_isIn 15 = .ok (.ireturn, 1) := by decide +kernel
theorem dX1_isKey_0 : decode cX1_isKey 0 = .ok (.iload_n 0, 1) := by decide +kernel
theorem dX1_isKey_1 : decode cX1_isKey 1 = .ok (.iconst 0, 1) := by decide +kernel
theorem dX1_isKey_2 : decode cX1_isKey 2 = .ok (.bipush 39, 2) := by decide +kernel
theorem dX1_isKey_4 : decode cX1_isKey 4 = .ok (.invokestatic 36, 3) := by decide +kernel
theorem dX1_isKey_7 : decode cX1_isKey 7 = .ok (.ireturn, 1) := by decide +kernel
theorem dX1_suits_0 : decode cX1_suits 0 = .ok (.aload_n 0, 1) := by decide +kernel
theorem dX1_suits_1 : decode cX1_suits 1 = .ok (.getfield 40, 3) := by decide +kernel
theorem dX1_suits_4 : decode cX1_suits 4 = .ok (.iconst 1, 1) := by decide +kernel
theorem dX1_suits_5 : decode cX1_suits 5 = .ok (.if_icmp .ne 15, 3) := by decide +kernel
theorem dX1_suits_8 : decode cX1_suits 8 = .ok (.iload_n 1, 1) := by decide +kernel
theorem dX1_suits_9 : decode cX1_suits 9 = .ok (.sipush 1000, 3) := by decide +kernel
theorem dX1_suits_12 : decode cX1_suits 12 = .ok (.irem, 1) := by decide +kernel
theorem dX1_suits_13 : decode cX1_suits 13 = .ok (.aload_n 0, 1) := by decide +kernel
theorem dX1_suits_14 : decode cX1_suits 14 = .ok (.getfield 43, 3) := by decide +kernel
theorem dX1_suits_17 : decode cX1_suits 17 = .ok (.if_icmp .gt 7, 3) := by decide +kernel
theorem dX1_suits_20 : decode cX1_suits 20 = .ok (.iconst 1, 1) := by decide +kernel
theorem dX1_suits_21 : decode cX1_suits 21 = .ok (.goto 4, 3) := by decide +kernel
theorem dX1_suits_24 : decode cX1_suits 24 = .ok (.iconst 0, 1) := by decide +kernel
theorem dX1_suits_25 : decode cX1_suits 25 = .ok (.ireturn, 1) := by decide +kernel
theorem dX1_digits_0 : decode cX1_digits 0 = .ok (.iload_n 0, 1) := by decide +kernel
theorem dX1_digits_1 : decode cX1_digits 1 = .ok (.bipush 10, 2) := by decide +kernel
theorem dX1_digits_3 : decode cX1_digits 3 = .ok (.if_icmp .ge 7, 3) := by decide +kernel
theorem dX1_digits_6 : decode cX1_digits 6 = .ok (.iconst 1, 1) := by decide +kernel
theorem dX1_digits_7 : decode cX1_digits 7 = .ok (.goto 14, 3) := by decide +kernel
theorem dX1_digits_10 : decode cX1_digits 10 = .ok (.iload_n 0, 1) := by decide +kernel
theorem dX1_digits_11 : decode cX1_digits 11 = .ok (.bipush 100, 2) := by decide +kernel
theorem dX1_digits_13 : decode cX1_digits 13 = .ok (.if_icmp .ge 7, 3) := by decide +kernel
theorem dX1_digits_16 : decode cX1_digits 16 = .ok (.iconst 2, 1) := by decide +kernel
theorem dX1_digits_17 : decode cX1_digits 17 = .ok (.goto 4, 3) := by decide +kernel
theorem dX1_digits_20 : decode cX1_digits 20 = .ok (.iconst 3, 1) := by decide +kernel
theorem dX1_digits_21 : decode cX1_digits 21 = .ok (.ireturn, 1) := by decide +kernel
theorem dX1_altered_0 : decode cX1_altered 0 = .ok (.iload_n 1, 1) := by decide +kernel
theorem dX1_altered_1 : decode cX1_altered 1 = .ok (.sipush 1000, 3) := by decide +kernel
theorem dX1_altered_4 : decode cX1_altered 4 = .ok (.idiv, 1) := by decide +kernel
theorem dX1_altered_5 : decode cX1_altered 5 = .ok (.istore_n 3, 1) := by decide +kernel
theorem dX1_altered_6 : decode cX1_altered 6 = .ok (.iload_n 1, 1) := by decide +kernel
theorem dX1_altered_7 : decode cX1_altered 7 = .ok (.sipush 1000, 3) := by decide +kernel
theorem dX1_altered_10 : decode cX1_altered 10 = .ok (.irem, 1) := by decide +kernel
theorem dX1_altered_11 : decode cX1_altered 11 = .ok (.istore 4, 2) := by decide +kernel
theorem dX1_altered_13 : decode cX1_altered 13 = .ok (.aload_n 0, 1) := by decide +kernel
theorem dX1_altered_14 : decode cX1_altered 14 = .ok (.getfield 40, 3) := by decide +kernel
theorem dX1_altered_17 : decode cX1_altered 17 = .ok (.ifCond .ne 29, 3) := by decide +kernel
theorem dX1_altered_20 : decode cX1_altered 20 = .ok (.iload_n 2, 1) := by decide +kernel
theorem dX1_altered_21 : decode cX1_altered 21 = .ok (.ifCond .ne 10, 3) := by decide +kernel
theorem dX1_altered_24 : decode cX1_altered 24 = .ok (.iload_n 3, 1) := by decide +kernel
theorem dX1_altered_25 : decode cX1_altered 25 = .ok (.bipush 100, 2) := by decide +kernel
theorem dX1_altered_27 : decode cX1_altered 27 = .ok (.idiv, 1) := by decide +kernel
theorem dX1_altered_28 : decode cX1_altered 28 = .ok (.goto 17, 3) := by decide +kernel
theorem dX1_altered_31 : decode cX1_altered 31 = .ok (.iload_n 2, 1) := by decide +kernel
theorem dX1_altered_32 : decode cX1_altered 32 = .ok (.iconst 1, 1) := by decide +kernel
theorem dX1_altered_33 : decode cX1_altered 33 = .ok (.if_icmp .ne 10, 3) := by decide +kernel
theorem dX1_altered_36 : decode cX1_altered 36 = .ok (.iload_n 3, 1) := by decide +kernel
theorem dX1_altered_37 : decode cX1_altered 37 = .ok (.bipush 100, 2) := by decide +kernel
theorem dX1_altered_39 : decode cX1_altered 39 = .ok (.irem, 1) := by decide +kernel
theorem dX1_altered_40 : decode cX1_altered 40 = .ok (.goto 5, 3) := by decide +kernel
theorem dX1_altered_43 : decode cX1_altered 43 = .ok (.iload 4, 2) := by decide +kernel
theorem dX1_altered_45 : decode cX1_altered 45 = .ok (.ireturn, 1) := by decide +kernel
theorem dX1_altered_46 : decode cX1_altered 46 = .ok (.aload_n 0, 1) := by decide +kernel
theorem dX1_altered_47 : decode cX1_altered 47 = .ok (.getfield 40, 3) := by decide +kernel
theorem dX1_altered_50 : decode cX1_altered 50 = .ok (.iconst 1, 1) := by decide +kernel
theorem dX1_altered_51 : decode cX1_altered 51 = .ok (.if_icmp .ne 23, 3) := by decide +kernel
theorem dX1_altered_54 : decode cX1_altered 54 = .ok (.iload_n 2, 1) := by decide +kernel
theorem dX1_altered_55 : decode cX1_altered 55 = .ok (.ifCond .ne 7, 3) := by decide +kernel
theorem dX1_altered_58 : decode cX1_altered 58 = .ok (.iload_n 3, 1) := by decide +kernel
theorem dX1_altered_59 : decode cX1_altered 59 = .ok (.goto 14, 3) := by decide +kernel
theorem dX1_altered_62 : decode cX1_altered 62 = .ok (.iload_n 2, 1) := by decide +kernel
theorem dX1_altered_63 : decode cX1_altered 63 = .ok (.iconst 1, 1) := by decide +kernel
theorem dX1_altered_64 : decode cX1_altered 64 = .ok (.if_icmp .ne 8, 3) := by decide +kernel
theorem dX1_altered_67 : decode cX1_altered 67 = .ok (.iload 4, 2) := by decide +kernel
theorem dX1_altered_69 : decode cX1_altered 69 = .ok (.goto 4, 3) := by decide +kernel
theorem dX1_altered_72 : decode cX1_altered 72 = .ok (.iconst 0, 1) := by decide +kernel
theorem dX1_altered_73 : decode cX1_altered 73 = .ok (.ireturn, 1) := by decide +kernel
theorem dX1_altered_74 : decode cX1_altered 74 = .ok (.iload_n 2, 1) := by decide +kernel
theorem dX1_altered_75 : decode cX1_altered 75 = .ok (.ifCond .ne 7, 3) := by decide +kernel
theorem dX1_altered_78 : decode cX1_altered 78 = .ok (.iload_n 3, 1) := by decide +kernel
theorem dX1_altered_79 : decode cX1_altered 79 = .ok (.goto 23, 3) := by decide +kernel
theorem dX1_altered_82 : decode cX1_altered 82 = .ok (.iload_n 2, 1) := by decide +kernel
theorem dX1_altered_83 : decode cX1_altered 83 = .ok (.iconst 1, 1) := by decide +kernel
theorem dX1_altered_84 : decode cX1_altered 84 = .ok (.if_icmp .ne 13, 3) := by decide +kernel
theorem dX1_altered_87 : decode cX1_altered 87 = .ok (.iload 4, 2) := by decide +kernel
theorem dX1_altered_89 : decode cX1_altered 89 = .ok (.aload_n 0, 1) := by decide +kernel
theorem dX1_altered_90 : decode cX1_altered 90 = .ok (.getfield 43, 3) := by decide +kernel
theorem dX1_altered_93 : decode cX1_altered 93 = .ok (.imul, 1) := by decide +kernel
theorem dX1_altered_94 : decode cX1_altered 94 = .ok (.goto 8, 3) := by decide +kernel
theorem dX1_altered_97 : decode cX1_altered 97 = .ok (.iload 4, 2) := by decide +kernel
theorem dX1_altered_99 : decode cX1_altered 99 = .ok (.invokestatic 46, 3) := by decide +kernel
theorem dX1_altered_102 : decode cX1_altered 102 = .ok (.ireturn, 1) := by decide +kernel
theorem dX1_brings_0 : decode cX1_brings 0 = .ok (.aload_n 0, 1) := by decide +kernel
theorem dX1_brings_1 : decode cX1_brings 1 = .ok (.getfield 16, 3) := by decide +kernel
theorem dX1_brings_4 : decode cX1_brings 4 = .ok (.iload_n 1, 1) := by decide +kernel
theorem dX1_brings_5 : decode cX1_brings 5 = .ok (.aload_n 0, 1) := by decide +kernel
theorem dX1_brings_6 : decode cX1_brings 6 = .ok (.getfield 7, 3) := by decide +kernel
theorem dX1_brings_9 : decode cX1_brings 9 = .ok (.iload_n 1, 1) := by decide +kernel
theorem dX1_brings_10 : decode cX1_brings 10 = .ok (.iaload, 1) := by decide +kernel
theorem dX1_brings_11 : decode cX1_brings 11 = .ok (.iconst (-1), 1) := by decide +kernel
theorem dX1_brings_12 : decode cX1_brings 12 = .ok (.if_icmp .eq 20, 3) := by decide +kernel
theorem dX1_brings_15 : decode cX1_brings 15 = .ok (.aload_n 0, 1) := by decide +kernel
theorem dX1_brings_16 : decode cX1_brings 16 = .ok (.aload_n 0, 1) := by decide +kernel
theorem dX1_brings_17 : decode cX1_brings 17 = .ok (.getfield 7, 3) := by decide +kernel
theorem dX1_brings_20 : decode cX1_brings 20 = .ok (.iload_n 1, 1) := by decide +kernel
theorem dX1_brings_21 : decode cX1_brings 21 = .ok (.iaload, 1) := by decide +kernel
theorem dX1_brings_22 : decode cX1_brings 22 = .ok (.invokevirtual 50, 3) := by decide +kernel
theorem dX1_brings_25 : decode cX1_brings 25 = .ok (.ifCond .eq 7, 3) := by decide +kernel
theorem dX1_brings_28 : decode cX1_brings 28 = .ok (.iconst 1, 1) := by decide +kernel
theorem dX1_brings_29 : decode cX1_brings 29 = .ok (.goto 4, 3) := by decide +kernel
theorem dX1_brings_32 : decode cX1_brings 32 = .ok (.iconst 0, 1) := by decide +kernel
theorem dX1_brings_33 : decode cX1_brings 33 = .ok (.bastore, 1) := by decide +kernel
theorem dX1_brings_34 : decode cX1_brings 34 = .ok (.aload_n 0, 1) := by decide +kernel
theorem dX1_brings_35 : decode cX1_brings 35 = .ok (.getfield 20, 3) := by decide +kernel
theorem dX1_brings_38 : decode cX1_brings 38 = .ok (.iload_n 1, 1) := by decide +kernel
theorem dX1_brings_39 : decode cX1_brings 39 = .ok (.aload_n 0, 1) := by decide +kernel
theorem dX1_brings_40 : decode cX1_brings 40 = .ok (.getfield 7, 3) := by decide +kernel
theorem dX1_brings_43 : decode cX1_brings 43 = .ok (.iload_n 1, 1) := by decide +kernel
theorem dX1_brings_44 : decode cX1_brings 44 = .ok (.iaload, 1) := by decide +kernel
theorem dX1_brings_45 : decode cX1_brings 45 = .ok (.iconst (-1), 1) := by decide +kernel
theorem dX1_brings_46 : decode cX1_brings 46 = .ok (.if_icmp .eq 16, 3) := by decide +kernel
theorem dX1_brings_49 : decode cX1_brings 49 = .ok (.aload_n 0, 1) := by decide +kernel
theorem dX1_brings_50 : decode cX1_brings 50 = .ok (.getfield 16, 3) := by decide +kernel
theorem dX1_brings_53 : decode cX1_brings 53 = .ok (.iload_n 1, 1) := by decide +kernel
theorem dX1_brings_54 : decode cX1_brings 54 = .ok (.baload, 1) := by decide +kernel
theorem dX1_brings_55 : decode cX1_brings 55 = .ok (.ifCond .ne 7, 3) := by decide +kernel
theorem dX1_brings_58 : decode cX1_brings 58 = .ok (.iconst 1, 1) := by decide +kernel
theorem dX1_brings_59 : decode cX1_brings 59 = .ok (.goto 4, 3) := by decide +kernel
theorem dX1_brings_62 : decode cX1_brings 62 = .ok (.iconst 0, 1) := by decide +kernel
theorem dX1_brings_63 : decode cX1_brings 63 = .ok (.bastore, 1) := by decide +kernel
theorem dX1_brings_64 : decode cX1_brings 64 = .ok (.iconst 0, 1) := by decide +kernel
theorem dX1_brings_65 : decode cX1_brings 65 = .ok (.istore_n 2, 1) := by decide +kernel
theorem dX1_brings_66 : decode cX1_brings 66 = .ok (.iload_n 2, 1) := by decide +kernel
theorem dX1_brings_67 : decode cX1_brings 67 = .ok (.iconst 3, 1) := by decide +kernel
theorem dX1_brings_68 : decode cX1_brings 68 = .ok (.if_icmp .ge 39, 3) := by decide +kernel
theorem dX1_brings_71 : decode cX1_brings 71 = .ok (.aload_n 0, 1) := by decide +kernel
theorem dX1_brings_72 : decode cX1_brings 72 = .ok (.getfield 16, 3) := by decide +kernel
theorem dX1_brings_75 : decode cX1_brings 75 = .ok (.iload_n 1, 1) := by decide +kernel
theorem dX1_brings_76 : decode cX1_brings 76 = .ok (.baload, 1) := by decide +kernel
theorem dX1_brings_77 : decode cX1_brings 77 = .ok (.ifCond .eq 30, 3) := by decide +kernel
theorem dX1_brings_80 : decode cX1_brings 80 = .ok (.aload_n 0, 1) := by decide +kernel
theorem dX1_brings_81 : decode cX1_brings 81 = .ok (.getfield 13, 3) := by decide +kernel
theorem dX1_brings_84 : decode cX1_brings 84 = .ok (.iconst 3, 1) := by decide +kernel
theorem dX1_brings_85 : decode cX1_brings 85 = .ok (.iload_n 1, 1) := by decide +kernel
theorem dX1_brings_86 : decode cX1_brings 86 = .ok (.imul, 1) := by decide +kernel
theorem dX1_brings_87 : decode cX1_brings 87 = .ok (.iload_n 2, 1) := by decide +kernel
theorem dX1_brings_88 : decode cX1_brings 88 = .ok (.iadd, 1) := by decide +kernel
theorem dX1_brings_89 : decode cX1_brings 89 = .ok (.aload_n 0, 1) := by decide +kernel
theorem dX1_brings_90 : decode cX1_brings 90 = .ok (.aload_n 0, 1) := by decide +kernel
theorem dX1_brings_91 : decode cX1_brings 91 = .ok (.getfield 7, 3) := by decide +kernel
theorem dX1_brings_94 : decode cX1_brings 94 = .ok (.iload_n 1, 1) := by decide +kernel
theorem dX1_brings_95 : decode cX1_brings 95 = .ok (.iaload, 1) := by decide +kernel
theorem dX1_brings_96 : decode cX1_brings 96 = .ok (.iload_n 2, 1) := by decide +kernel
theorem dX1_brings_97 : decode cX1_brings 97 = .ok (.invokevirtual 54, 3) := by decide +kernel
theorem dX1_brings_100 : decode cX1_brings 100 = .ok (.iastore, 1) := by decide +kernel
theorem dX1_brings_101 : decode cX1_brings 101 = .ok (.iinc 2 1, 3) := by decide +kernel
theorem dX1_brings_104 : decode cX1_brings 104 = .ok (.goto (-38), 3) := by decide +kernel
theorem dX1_brings_107 : decode cX1_brings 107 = .ok (.return_, 1) := by decide +kernel
theorem dX1_isSeen_0 : decode cX1_isSeen 0 = .ok (.aload_n 0, 1) := by decide +kernel
theorem dX1_isSeen_1 : decode cX1_isSeen 1 = .ok (.getfield 7, 3) := by decide +kernel
theorem dX1_isSeen_4 : decode cX1_isSeen 4 = .ok (.iload_n 1, 1) := by decide +kernel
theorem dX1_isSeen_5 : decode cX1_isSeen 5 = .ok (.iaload, 1) := by decide +kernel
theorem dX1_isSeen_6 : decode cX1_isSeen 6 = .ok (.iconst (-1), 1) := by decide +kernel
theorem dX1_isSeen_7 : decode cX1_isSeen 7 = .ok (.if_icmp .eq 24, 3) := by decide +kernel
theorem dX1_isSeen_10 : decode cX1_isSeen 10 = .ok (.aload_n 0, 1) := by decide +kernel
theorem dX1_isSeen_11 : decode cX1_isSeen 11 = .ok (.getfield 58, 3) := by decide +kernel
theorem dX1_isSeen_14 : decode cX1_isSeen 14 = .ok (.iconst 2, 1) := by decide +kernel
theorem dX1_isSeen_15 : decode cX1_isSeen 15 = .ok (.if_icmp .ne 12, 3) := by decide +kernel
theorem dX1_isSeen_18 : decode cX1_isSeen 18 = .ok (.aload_n 0, 1) := by decide +kernel
theorem dX1_isSeen_19 : decode cX1_isSeen 19 = .ok (.getfield 16, 3) := by decide +kernel
theorem dX1_isSeen_22 : decode cX1_isSeen 22 = .ok (.iload_n 1, 1) := by decide +kernel
theorem dX1_isSeen_23 : decode cX1_isSeen 23 = .ok (.baload, 1) := by decide +kernel
theorem dX1_isSeen_24 : decode cX1_isSeen 24 = .ok (.ifCond .eq 7, 3) := by decide +kernel
theorem dX1_isSeen_27 : decode cX1_isSeen 27 = .ok (.iconst 1, 1) := by decide +kernel
theorem dX1_isSeen_28 : decode cX1_isSeen 28 = .ok (.goto 4, 3) := by decide +kernel
theorem dX1_isSeen_31 : decode cX1_isSeen 31 = .ok (.iconst 0, 1) := by decide +kernel
theorem dX1_isSeen_32 : decode cX1_isSeen 32 = .ok (.ireturn, 1) := by decide +kernel
theorem dX1_wrote_0 : decode cX1_wrote 0 = .ok (.aload_n 0, 1) := by decide +kernel
theorem dX1_wrote_1 : decode cX1_wrote 1 = .ok (.getfield 58, 3) := by decide +kernel
theorem dX1_wrote_4 : decode cX1_wrote 4 = .ok (.iconst 1, 1) := by decide +kernel
theorem dX1_wrote_5 : decode cX1_wrote 5 = .ok (.if_icmp .ne 26, 3) := by decide +kernel
theorem dX1_wrote_8 : decode cX1_wrote 8 = .ok (.aload_n 0, 1) := by decide +kernel
theorem dX1_wrote_9 : decode cX1_wrote 9 = .ok (.getfield 30, 3) := by decide +kernel
theorem dX1_wrote_12 : decode cX1_wrote 12 = .ok (.aload_n 0, 1) := by decide +kernel
theorem dX1_wrote_13 : decode cX1_wrote 13 = .ok (.getfield 61, 3) := by decide +kernel
theorem dX1_wrote_16 : decode cX1_wrote 16 = .ok (.iload_n 1, 1) := by decide +kernel
theorem dX1_wrote_17 : decode cX1_wrote 17 = .ok (.iastore, 1) := by decide +kernel
theorem dX1_wrote_18 : decode cX1_wrote 18 = .ok (.aload_n 0, 1) := by decide +kernel
theorem dX1_wrote_19 : decode cX1_wrote 19 = .ok (.dup, 1) := by decide +kernel
theorem dX1_wrote_20 : decode cX1_wrote 20 = .ok (.getfield 61, 3) := by decide +kernel
theorem dX1_wrote_23 : decode cX1_wrote 23 = .ok (.iconst 1, 1) := by decide +kernel
theorem dX1_wrote_24 : decode cX1_wrote 24 = .ok (.iadd, 1) := by decide +kernel
theorem dX1_wrote_25 : decode cX1_wrote 25 = .ok (.putfield 61, 3) := by decide +kernel
theorem dX1_wrote_28 : decode cX1_wrote 28 = .ok (.goto 16, 3) := by decide +kernel
theorem dX1_wrote_31 : decode cX1_wrote 31 = .ok (.aload_n 0, 1) := by decide +kernel
theorem dX1_wrote_32 : decode cX1_wrote 32 = .ok (.getfield 58, 3) := by decide +kernel
theorem dX1_wrote_35 : decode cX1_wrote 35 = .ok (.iconst 2, 1) := by decide +kernel
theorem dX1_wrote_36 : decode cX1_wrote 36 = .ok (.if_icmp .ne 8, 3) := by decide +kernel
theorem dX1_wrote_39 : decode cX1_wrote 39 = .ok (.aload_n 0, 1) := by decide +kernel
theorem dX1_wrote_40 : decode cX1_wrote 40 = .ok (.iload_n 1, 1) := by decide +kernel
theorem dX1_wrote_41 : decode cX1_wrote 41 = .ok (.invokevirtual 64, 3) := by decide +kernel
theorem dX1_wrote_44 : decode cX1_wrote 44 = .ok (.return_, 1) := by decide +kernel
theorem dX1_faultOf_0 : decode cX1_faultOf 0 = .ok (.iload_n 2, 1) := by decide +kernel
theorem dX1_faultOf_1 : decode cX1_faultOf 1 = .ok (.iconst 0, 1) := by decide +kernel
theorem dX1_faultOf_2 : decode cX1_faultOf 2 = .ok (.sipush 999, 3) := by decide +kernel
theorem dX1_faultOf_5 : decode cX1_faultOf 5 = .ok (.invokestatic 36, 3) := by decide +kernel
theorem dX1_faultOf_8 : decode cX1_faultOf 8 = .ok (.ifCond .eq 18, 3) := by decide +kernel
theorem dX1_faultOf_11 : decode cX1_faultOf 11 = .ok (.iload_n 3, 1) := by decide +kernel
theorem dX1_faultOf_12 : decode cX1_faultOf 12 = .ok (.iconst 0, 1) := by decide +kernel
theorem dX1_faultOf_13 : decode cX1_faultOf 13 = .ok (.sipush 999, 3) := by decide +kernel
theorem dX1_faultOf_16 : decode cX1_faultOf 16 = .ok (.invokestatic 36, 3) := by decide +kernel
theorem dX1_faultOf_19 : decode cX1_faultOf 19 = .ok (.ifCond .eq 7, 3) := by decide +kernel
theorem dX1_faultOf_22 : decode cX1_faultOf 22 = .ok (.iconst 1, 1) := by decide +kernel
theorem dX1_faultOf_23 : decode cX1_faultOf 23 = .ok (.goto 4, 3) := by decide +kernel
theorem dX1_faultOf_26 : decode cX1_faultOf 26 = .ok (.iconst 0, 1) := by decide +kernel
theorem dX1_faultOf_27 : decode cX1_faultOf 27 = .ok (.istore 4, 2) := by decide +kernel
theorem dX1_faultOf_29 : decode cX1_faultOf 29 = .ok (.iload_n 1, 1) := by decide +kernel
theorem dX1_faultOf_30 : decode cX1_faultOf 30 = .ok (.invokestatic 68, 3) := by decide +kernel
theorem dX1_faultOf_33 : decode cX1_faultOf 33 = .ok (.ifCond .ne 7, 3) := by decide +kernel
theorem dX1_faultOf_36 : decode cX1_faultOf 36 = .ok (.iconst 1, 1) := by decide +kernel
theorem dX1_faultOf_37 : decode cX1_faultOf 37 = .ok (.goto 35, 3) := by decide +kernel
theorem dX1_faultOf_40 : decode cX1_faultOf 40 = .ok (.iload 4, 2) := by decide +kernel
theorem dX1_faultOf_42 : decode cX1_faultOf 42 = .ok (.ifCond .eq 25, 3) := by decide +kernel
theorem dX1_faultOf_45 : decode cX1_faultOf 45 = .ok (.aload_n 0, 1) := by decide +kernel
theorem dX1_faultOf_46 : decode cX1_faultOf 46 = .ok (.getfield 58, 3) := by decide +kernel
theorem dX1_faultOf_49 : decode cX1_faultOf 49 = .ok (.iconst 2, 1) := by decide +kernel
theorem dX1_faultOf_50 : decode cX1_faultOf 50 = .ok (.if_icmp .ne 21, 3) := by decide +kernel
theorem dX1_faultOf_53 : decode cX1_faultOf 53 = .ok (.aload_n 0, 1) := by decide +kernel
theorem dX1_faultOf_54 : decode cX1_faultOf 54 = .ok (.sipush 1000, 3) := by decide +kernel
theorem dX1_faultOf_57 : decode cX1_faultOf 57 = .ok (.iload_n 2, 1) := by decide +kernel
theorem dX1_faultOf_58 : decode cX1_faultOf 58 = .ok (.imul, 1) := by decide +kernel
theorem dX1_faultOf_59 : decode cX1_faultOf 59 = .ok (.iload_n 3, 1) := by decide +kernel
theorem dX1_faultOf_60 : decode cX1_faultOf 60 = .ok (.iadd, 1) := by decide +kernel
theorem dX1_faultOf_61 : decode cX1_faultOf 61 = .ok (.invokevirtual 50, 3) := by decide +kernel
theorem dX1_faultOf_64 : decode cX1_faultOf 64 = .ok (.ifCond .ne 7, 3) := by decide +kernel
theorem dX1_faultOf_67 : decode cX1_faultOf 67 = .ok (.iconst 2, 1) := by decide +kernel
theorem dX1_faultOf_68 : decode cX1_faultOf 68 = .ok (.goto 4, 3) := by decide +kernel
theorem dX1_faultOf_71 : decode cX1_faultOf 71 = .ok (.iconst 0, 1) := by decide +kernel
theorem dX1_faultOf_72 : decode cX1_faultOf 72 = .ok (.ireturn, 1) := by decide +kernel
theorem dX1_writes_0 : decode cX1_writes 0 = .ok (.aload_n 0, 1) := by decide +kernel
theorem dX1_writes_1 : decode cX1_writes 1 = .ok (.getfield 7, 3) := by decide +kernel
theorem dX1_writes_4 : decode cX1_writes 4 = .ok (.iload_n 1, 1) := by decide +kernel
theorem dX1_writes_5 : decode cX1_writes 5 = .ok (.iload_n 2, 1) := by decide +kernel
theorem dX1_writes_6 : decode cX1_writes 6 = .ok (.iastore, 1) := by decide +kernel
theorem dX1_writes_7 : decode cX1_writes 7 = .ok (.aload_n 0, 1) := by decide +kernel
theorem dX1_writes_8 : decode cX1_writes 8 = .ok (.iload_n 1, 1) := by decide +kernel
theorem dX1_writes_9 : decode cX1_writes 9 = .ok (.invokevirtual 71, 3) := by decide +kernel
theorem dX1_writes_12 : decode cX1_writes 12 = .ok (.return_, 1) := by decide +kernel
theorem dX1_insert_0 : decode cX1_insert 0 = .ok (.aload_n 0, 1) := by decide +kernel
theorem dX1_insert_1 : decode cX1_insert 1 = .ok (.iload_n 1, 1) := by decide +kernel
theorem dX1_insert_2 : decode cX1_insert 2 = .ok (.iload_n 2, 1) := by decide +kernel
theorem dX1_insert_3 : decode cX1_insert 3 = .ok (.iload_n 3, 1) := by decide +kernel
theorem dX1_insert_4 : decode cX1_insert 4 = .ok (.invokevirtual 74, 3) := by decide +kernel
theorem dX1_insert_7 : decode cX1_insert 7 = .ok (.istore 4, 2) := by decide +kernel
theorem dX1_insert_9 : decode cX1_insert 9 = .ok (.aload_n 0, 1) := by decide +kernel
theorem dX1_insert_10 : decode cX1_insert 10 = .ok (.iload 4, 2) := by decide +kernel
theorem dX1_insert_12 : decode cX1_insert 12 = .ok (.ifCond .le 8, 3) := by decide +kernel
theorem dX1_insert_15 : decode cX1_insert 15 = .ok (.iload 4, 2) := by decide +kernel
theorem dX1_insert_17 : decode cX1_insert 17 = .ok (.goto 16, 3) := by decide +kernel
theorem dX1_insert_20 : decode cX1_insert 20 = .ok (.aload_n 0, 1) := by decide +kernel
theorem dX1_insert_21 : decode cX1_insert 21 = .ok (.iload_n 1, 1) := by decide +kernel
theorem dX1_insert_22 : decode cX1_insert 22 = .ok (.invokevirtual 78, 3) := by decide +kernel
theorem dX1_insert_25 : decode cX1_insert 25 = .ok (.ifCond .eq 7, 3) := by decide +kernel
theorem dX1_insert_28 : decode cX1_insert 28 = .ok (.iconst 3, 1) := by decide +kernel
theorem dX1_insert_29 : decode cX1_insert 29 = .ok (.goto 4, 3) := by decide +kernel
theorem dX1_insert_32 : decode cX1_insert 32 = .ok (.iconst 0, 1) := by decide +kernel
theorem dX1_insert_33 : decode cX1_insert 33 = .ok (.invokevirtual 81, 3) := by decide +kernel
theorem dX1_insert_36 : decode cX1_insert 36 = .ok (.ifCond .eq 15, 3) := by decide +kernel
theorem dX1_insert_39 : decode cX1_insert 39 = .ok (.aload_n 0, 1) := by decide +kernel
theorem dX1_insert_40 : decode cX1_insert 40 = .ok (.iload_n 1, 1) := by decide +kernel
theorem dX1_insert_41 : decode cX1_insert 41 = .ok (.sipush 1000, 3) := by decide +kernel
theorem dX1_insert_44 : decode cX1_insert 44 = .ok (.iload_n 2, 1) := by decide +kernel
theorem dX1_insert_45 : decode cX1_insert 45 = .ok (.imul, 1) := by decide +kernel
theorem dX1_insert_46 : decode cX1_insert 46 = .ok (.iload_n 3, 1) := by decide +kernel
theorem dX1_insert_47 : decode cX1_insert 47 = .ok (.iadd, 1) := by decide +kernel
theorem dX1_insert_48 : decode cX1_insert 48 = .ok (.invokevirtual 84, 3) := by decide +kernel
theorem dX1_insert_51 : decode cX1_insert 51 = .ok (.return_, 1) := by decide +kernel
theorem dX1_update_0 : decode cX1_update 0 = .ok (.aload_n 0, 1) := by decide +kernel
theorem dX1_update_1 : decode cX1_update 1 = .ok (.iload_n 1, 1) := by decide +kernel
theorem dX1_update_2 : decode cX1_update 2 = .ok (.iload_n 2, 1) := by decide +kernel
theorem dX1_update_3 : decode cX1_update 3 = .ok (.iload_n 3, 1) := by decide +kernel
theorem dX1_update_4 : decode cX1_update 4 = .ok (.invokevirtual 74, 3) := by decide +kernel
theorem dX1_update_7 : decode cX1_update 7 = .ok (.istore 4, 2) := by decide +kernel
theorem dX1_update_9 : decode cX1_update 9 = .ok (.aload_n 0, 1) := by decide +kernel
theorem dX1_update_10 : decode cX1_update 10 = .ok (.iload 4, 2) := by decide +kernel
theorem dX1_update_12 : decode cX1_update 12 = .ok (.ifCond .le 8, 3) := by decide +kernel
theorem dX1_update_15 : decode cX1_update 15 = .ok (.iload 4, 2) := by decide +kernel
theorem dX1_update_17 : decode cX1_update 17 = .ok (.goto 16, 3) := by decide +kernel
theorem dX1_update_20 : decode cX1_update 20 = .ok (.aload_n 0, 1) := by decide +kernel
theorem dX1_update_21 : decode cX1_update 21 = .ok (.iload_n 1, 1) := by decide +kernel
theorem dX1_update_22 : decode cX1_update 22 = .ok (.invokevirtual 78, 3) := by decide +kernel
theorem dX1_update_25 : decode cX1_update 25 = .ok (.ifCond .eq 7, 3) := by decide +kernel
theorem dX1_update_28 : decode cX1_update 28 = .ok (.iconst 0, 1) := by decide +kernel
theorem dX1_update_29 : decode cX1_update 29 = .ok (.goto 4, 3) := by decide +kernel
theorem dX1_update_32 : decode cX1_update 32 = .ok (.iconst 3, 1) := by decide +kernel
theorem dX1_update_33 : decode cX1_update 33 = .ok (.invokevirtual 81, 3) := by decide +kernel
theorem dX1_update_36 : decode cX1_update 36 = .ok (.ifCond .eq 15, 3) := by decide +kernel
theorem dX1_update_39 : decode cX1_update 39 = .ok (.aload_n 0, 1) := by decide +kernel
theorem dX1_update_40 : decode cX1_update 40 = .ok (.iload_n 1, 1) := by decide +kernel
theorem dX1_update_41 : decode cX1_update 41 = .ok (.sipush 1000, 3) := by decide +kernel
theorem dX1_update_44 : decode cX1_update 44 = .ok (.iload_n 2, 1) := by decide +kernel
theorem dX1_update_45 : decode cX1_update 45 = .ok (.imul, 1) := by decide +kernel
theorem dX1_update_46 : decode cX1_update 46 = .ok (.iload_n 3, 1) := by decide +kernel
theorem dX1_update_47 : decode cX1_update 47 = .ok (.iadd, 1) := by decide +kernel
theorem dX1_update_48 : decode cX1_update 48 = .ok (.invokevirtual 84, 3) := by decide +kernel
theorem dX1_update_51 : decode cX1_update 51 = .ok (.return_, 1) := by decide +kernel
theorem dX1_delete_0 : decode cX1_delete 0 = .ok (.aload_n 0, 1) := by decide +kernel
theorem dX1_delete_1 : decode cX1_delete 1 = .ok (.iload_n 1, 1) := by decide +kernel
theorem dX1_delete_2 : decode cX1_delete 2 = .ok (.invokestatic 68, 3) := by decide +kernel
theorem dX1_delete_5 : decode cX1_delete 5 = .ok (.ifCond .ne 7, 3) := by decide +kernel
theorem dX1_delete_8 : decode cX1_delete 8 = .ok (.iconst 1, 1) := by decide +kernel
theorem dX1_delete_9 : decode cX1_delete 9 = .ok (.goto 16, 3) := by decide +kernel
theorem dX1_delete_12 : decode cX1_delete 12 = .ok (.aload_n 0, 1) := by decide +kernel
theorem dX1_delete_13 : decode cX1_delete 13 = .ok (.iload_n 1, 1) := by decide +kernel
theorem dX1_delete_14 : decode cX1_delete 14 = .ok (.invokevirtual 78, 3) := by decide +kernel
theorem dX1_delete_17 : decode cX1_delete 17 = .ok (.ifCond .eq 7, 3) := by decide +kernel
theorem dX1_delete_20 : decode cX1_delete 20 = .ok (.iconst 0, 1) := by decide +kernel
theorem dX1_delete_21 : decode cX1_delete 21 = .ok (.goto 4, 3) := by decide +kernel
theorem dX1_delete_24 : decode cX1_delete 24 = .ok (.iconst 2, 1) := by decide +kernel
theorem dX1_delete_25 : decode cX1_delete 25 = .ok (.invokevirtual 81, 3) := by decide +kernel
theorem dX1_delete_28 : decode cX1_delete 28 = .ok (.ifCond .ne 5, 3) := by decide +kernel
theorem dX1_delete_31 : decode cX1_delete 31 = .ok (.iconst 0, 1) := by decide +kernel
theorem dX1_delete_32 : decode cX1_delete 32 = .ok (.ireturn, 1) := by decide +kernel
theorem dX1_delete_33 : decode cX1_delete 33 = .ok (.aload_n 0, 1) := by decide +kernel
theorem dX1_delete_34 : decode cX1_delete 34 = .ok (.getfield 7, 3) := by decide +kernel
theorem dX1_delete_37 : decode cX1_delete 37 = .ok (.iload_n 1, 1) := by decide +kernel
theorem dX1_delete_38 : decode cX1_delete 38 = .ok (.iaload, 1) := by decide +kernel
theorem dX1_delete_39 : decode cX1_delete 39 = .ok (.istore_n 2, 1) := by decide +kernel
theorem dX1_delete_40 : decode cX1_delete 40 = .ok (.aload_n 0, 1) := by decide +kernel
theorem dX1_delete_41 : decode cX1_delete 41 = .ok (.iload_n 1, 1) := by decide +kernel
theorem dX1_delete_42 : decode cX1_delete 42 = .ok (.iconst (-1), 1) := by decide +kernel
theorem dX1_delete_43 : decode cX1_delete 43 = .ok (.invokevirtual 84, 3) := by decide +kernel
theorem dX1_delete_46 : decode cX1_delete 46 = .ok (.iload_n 2, 1) := by decide +kernel
theorem dX1_delete_47 : decode cX1_delete 47 = .ok (.ireturn, 1) := by decide +kernel
theorem dX1_rekey_0 : decode cX1_rekey 0 = .ok (.iload_n 1, 1) := by decide +kernel
theorem dX1_rekey_1 : decode cX1_rekey 1 = .ok (.invokestatic 68, 3) := by decide +kernel
theorem dX1_rekey_4 : decode cX1_rekey 4 = .ok (.ifCond .eq 14, 3) := by decide +kernel
theorem dX1_rekey_7 : decode cX1_rekey 7 = .ok (.iload_n 2, 1) := by decide +kernel
theorem dX1_rekey_8 : decode cX1_rekey 8 = .ok (.invokestatic 68, 3) := by decide +kernel
theorem dX1_rekey_11 : decode cX1_rekey 11 = .ok (.ifCond .eq 7, 3) := by decide +kernel
theorem dX1_rekey_14 : decode cX1_rekey 14 = .ok (.iconst 1, 1) := by decide +kernel
theorem dX1_rekey_15 : decode cX1_rekey 15 = .ok (.goto 4, 3) := by decide +kernel
theorem dX1_rekey_18 : decode cX1_rekey 18 = .ok (.iconst 0, 1) := by decide +kernel
theorem dX1_rekey_19 : decode cX1_rekey 19 = .ok (.istore_n 3, 1) := by decide +kernel
theorem dX1_rekey_20 : decode cX1_rekey 20 = .ok (.aload_n 0, 1) := by decide +kernel
theorem dX1_rekey_21 : decode cX1_rekey 21 = .ok (.iload_n 3, 1) := by decide +kernel
theorem dX1_rekey_22 : decode cX1_rekey 22 = .ok (.ifCond .ne 7, 3) := by decide +kernel
theorem dX1_rekey_25 : decode cX1_rekey 25 = .ok (.iconst 1, 1) := by decide +kernel
theorem dX1_rekey_26 : decode cX1_rekey 26 = .ok (.goto 37, 3) := by decide +kernel
theorem dX1_rekey_29 : decode cX1_rekey 29 = .ok (.iload_n 1, 1) := by decide +kernel
theorem dX1_rekey_30 : decode cX1_rekey 30 = .ok (.iload_n 2, 1) := by decide +kernel
theorem dX1_rekey_31 : decode cX1_rekey 31 = .ok (.if_icmp .ne 7, 3) := by decide +kernel
theorem dX1_rekey_34 : decode cX1_rekey 34 = .ok (.iconst 2, 1) := by decide +kernel
theorem dX1_rekey_35 : decode cX1_rekey 35 = .ok (.goto 28, 3) := by decide +kernel
theorem dX1_rekey_38 : decode cX1_rekey 38 = .ok (.aload_n 0, 1) := by decide +kernel
theorem dX1_rekey_39 : decode cX1_rekey 39 = .ok (.iload_n 1, 1) := by decide +kernel
theorem dX1_rekey_40 : decode cX1_rekey 40 = .ok (.invokevirtual 78, 3) := by decide +kernel
theorem dX1_rekey_43 : decode cX1_rekey 43 = .ok (.ifCond .ne 7, 3) := by decide +kernel
theorem dX1_rekey_46 : decode cX1_rekey 46 = .ok (.iconst 3, 1) := by decide +kernel
theorem dX1_rekey_47 : decode cX1_rekey 47 = .ok (.goto 16, 3) := by decide +kernel
theorem dX1_rekey_50 : decode cX1_rekey 50 = .ok (.aload_n 0, 1) := by decide +kernel
theorem dX1_rekey_51 : decode cX1_rekey 51 = .ok (.iload_n 2, 1) := by decide +kernel
theorem dX1_rekey_52 : decode cX1_rekey 52 = .ok (.invokevirtual 78, 3) := by decide +kernel
theorem dX1_rekey_55 : decode cX1_rekey 55 = .ok (.ifCond .eq 7, 3) := by decide +kernel
theorem dX1_rekey_58 : decode cX1_rekey 58 = .ok (.iconst 4, 1) := by decide +kernel
theorem dX1_rekey_59 : decode cX1_rekey 59 = .ok (.goto 4, 3) := by decide +kernel
theorem dX1_rekey_62 : decode cX1_rekey 62 = .ok (.iconst 0, 1) := by decide +kernel
theorem dX1_rekey_63 : decode cX1_rekey 63 = .ok (.invokevirtual 81, 3) := by decide +kernel
theorem dX1_rekey_66 : decode cX1_rekey 66 = .ok (.ifCond .eq 50, 3) := by decide +kernel
theorem dX1_rekey_69 : decode cX1_rekey 69 = .ok (.aload_n 0, 1) := by decide +kernel
theorem dX1_rekey_70 : decode cX1_rekey 70 = .ok (.getfield 7, 3) := by decide +kernel
theorem dX1_rekey_73 : decode cX1_rekey 73 = .ok (.iload_n 2, 1) := by decide +kernel
theorem dX1_rekey_74 : decode cX1_rekey 74 = .ok (.aload_n 0, 1) := by decide +kernel
theorem dX1_rekey_75 : decode cX1_rekey 75 = .ok (.getfield 7, 3) := by decide +kernel
theorem dX1_rekey_78 : decode cX1_rekey 78 = .ok (.iload_n 1, 1) := by decide +kernel
theorem dX1_rekey_79 : decode cX1_rekey 79 = .ok (.iaload, 1) := by decide +kernel
theorem dX1_rekey_80 : decode cX1_rekey 80 = .ok (.iastore, 1) := by decide +kernel
theorem dX1_rekey_81 : decode cX1_rekey 81 = .ok (.aload_n 0, 1) := by decide +kernel
theorem dX1_rekey_82 : decode cX1_rekey 82 = .ok (.getfield 7, 3) := by decide +kernel
theorem dX1_rekey_85 : decode cX1_rekey 85 = .ok (.iload_n 1, 1) := by decide +kernel
theorem dX1_rekey_86 : decode cX1_rekey 86 = .ok (.iconst (-1), 1) := by decide +kernel
theorem dX1_rekey_87 : decode cX1_rekey 87 = .ok (.iastore, 1) := by decide +kernel
theorem dX1_rekey_88 : decode cX1_rekey 88 = .ok (.aload_n 0, 1) := by decide +kernel
theorem dX1_rekey_89 : decode cX1_rekey 89 = .ok (.iload_n 1, 1) := by decide +kernel
theorem dX1_rekey_90 : decode cX1_rekey 90 = .ok (.iload_n 2, 1) := by decide +kernel
theorem dX1_rekey_91 : decode cX1_rekey 91 = .ok (.if_icmp .ge 7, 3) := by decide +kernel
theorem dX1_rekey_94 : decode cX1_rekey 94 = .ok (.iload_n 1, 1) := by decide +kernel
theorem dX1_rekey_95 : decode cX1_rekey 95 = .ok (.goto 4, 3) := by decide +kernel
theorem dX1_rekey_98 : decode cX1_rekey 98 = .ok (.iload_n 2, 1) := by decide +kernel
theorem dX1_rekey_99 : decode cX1_rekey 99 = .ok (.invokevirtual 71, 3) := by decide +kernel
theorem dX1_rekey_102 : decode cX1_rekey 102 = .ok (.aload_n 0, 1) := by decide +kernel
theorem dX1_rekey_103 : decode cX1_rekey 103 = .ok (.iload_n 1, 1) := by decide +kernel
theorem dX1_rekey_104 : decode cX1_rekey 104 = .ok (.iload_n 2, 1) := by decide +kernel
theorem dX1_rekey_105 : decode cX1_rekey 105 = .ok (.if_icmp .ge 7, 3) := by decide +kernel
theorem dX1_rekey_108 : decode cX1_rekey 108 = .ok (.iload_n 2, 1) := by decide +kernel
theorem dX1_rekey_109 : decode cX1_rekey 109 = .ok (.goto 4, 3) := by decide +kernel
theorem dX1_rekey_112 : decode cX1_rekey 112 = .ok (.iload_n 1, 1) := by decide +kernel
theorem dX1_rekey_113 : decode cX1_rekey 113 = .ok (.invokevirtual 71, 3) := by decide +kernel
theorem dX1_rekey_116 : decode cX1_rekey 116 = .ok (.return_, 1) := by decide +kernel
theorem dX1_clears_0 : decode cX1_clears 0 = .ok (.iconst 0, 1) := by decide +kernel
theorem dX1_clears_1 : decode cX1_clears 1 = .ok (.istore_n 1, 1) := by decide +kernel
theorem dX1_clears_2 : decode cX1_clears 2 = .ok (.iload_n 1, 1) := by decide +kernel
theorem dX1_clears_3 : decode cX1_clears 3 = .ok (.bipush 40, 2) := by decide +kernel
theorem dX1_clears_5 : decode cX1_clears 5 = .ok (.if_icmp .ge 23, 3) := by decide +kernel
theorem dX1_clears_8 : decode cX1_clears 8 = .ok (.aload_n 0, 1) := by decide +kernel
theorem dX1_clears_9 : decode cX1_clears 9 = .ok (.getfield 16, 3) := by decide +kernel
theorem dX1_clears_12 : decode cX1_clears 12 = .ok (.iload_n 1, 1) := by decide +kernel
theorem dX1_clears_13 : decode cX1_clears 13 = .ok (.iconst 0, 1) := by decide +kernel
theorem dX1_clears_14 : decode cX1_clears 14 = .ok (.bastore, 1) := by decide +kernel
theorem dX1_clears_15 : decode cX1_clears 15 = .ok (.aload_n 0, 1) := by decide +kernel
theorem dX1_clears_16 : decode cX1_clears 16 = .ok (.getfield 20, 3) := by decide +kernel
theorem dX1_clears_19 : decode cX1_clears 19 = .ok (.iload_n 1, 1) := by decide +kernel
theorem dX1_clears_20 : decode cX1_clears 20 = .ok (.iconst 0, 1) := by decide +kernel
theorem dX1_clears_21 : decode cX1_clears 21 = .ok (.bastore, 1) := by decide +kernel
theorem dX1_clears_22 : decode cX1_clears 22 = .ok (.iinc 1 1, 3) := by decide +kernel
theorem dX1_clears_25 : decode cX1_clears 25 = .ok (.goto (-23), 3) := by decide +kernel
theorem dX1_clears_28 : decode cX1_clears 28 = .ok (.aload_n 0, 1) := by decide +kernel
theorem dX1_clears_29 : decode cX1_clears 29 = .ok (.iconst 0, 1) := by decide +kernel
theorem dX1_clears_30 : decode cX1_clears 30 = .ok (.putfield 88, 3) := by decide +kernel
theorem dX1_clears_33 : decode cX1_clears 33 = .ok (.aload_n 0, 1) := by decide +kernel
theorem dX1_clears_34 : decode cX1_clears 34 = .ok (.iconst 0, 1) := by decide +kernel
theorem dX1_clears_35 : decode cX1_clears 35 = .ok (.putfield 61, 3) := by decide +kernel
theorem dX1_clears_38 : decode cX1_clears 38 = .ok (.return_, 1) := by decide +kernel
theorem dX1_start_0 : decode cX1_start 0 = .ok (.iload_n 1, 1) := by decide +kernel
theorem dX1_start_1 : decode cX1_start 1 = .ok (.iconst 0, 1) := by decide +kernel
theorem dX1_start_2 : decode cX1_start 2 = .ok (.iconst 2, 1) := by decide +kernel
theorem dX1_start_3 : decode cX1_start 3 = .ok (.invokestatic 36, 3) := by decide +kernel
theorem dX1_start_6 : decode cX1_start 6 = .ok (.ifCond .eq 18, 3) := by decide +kernel
theorem dX1_start_9 : decode cX1_start 9 = .ok (.iload_n 2, 1) := by decide +kernel
theorem dX1_start_10 : decode cX1_start 10 = .ok (.iconst 0, 1) := by decide +kernel
theorem dX1_start_11 : decode cX1_start 11 = .ok (.sipush 999, 3) := by decide +kernel
theorem dX1_start_14 : decode cX1_start 14 = .ok (.invokestatic 36, 3) := by decide +kernel
theorem dX1_start_17 : decode cX1_start 17 = .ok (.ifCond .eq 7, 3) := by decide +kernel
theorem dX1_start_20 : decode cX1_start 20 = .ok (.iconst 1, 1) := by decide +kernel
theorem dX1_start_21 : decode cX1_start 21 = .ok (.goto 4, 3) := by decide +kernel
theorem dX1_start_24 : decode cX1_start 24 = .ok (.iconst 0, 1) := by decide +kernel
theorem dX1_start_25 : decode cX1_start 25 = .ok (.istore_n 3, 1) := by decide +kernel
theorem dX1_start_26 : decode cX1_start 26 = .ok (.aload_n 0, 1) := by decide +kernel
theorem dX1_start_27 : decode cX1_start 27 = .ok (.iload_n 3, 1) := by decide +kernel
theorem dX1_start_28 : decode cX1_start 28 = .ok (.ifCond .ne 7, 3) := by decide +kernel
theorem dX1_start_31 : decode cX1_start 31 = .ok (.iconst 1, 1) := by decide +kernel
theorem dX1_start_32 : decode cX1_start 32 = .ok (.goto 15, 3) := by decide +kernel
theorem dX1_start_35 : decode cX1_start 35 = .ok (.aload_n 0, 1) := by decide +kernel
theorem dX1_start_36 : decode cX1_start 36 = .ok (.getfield 58, 3) := by decide +kernel
theorem dX1_start_39 : decode cX1_start 39 = .ok (.ifCond .ne 7, 3) := by decide +kernel
theorem dX1_start_42 : decode cX1_start 42 = .ok (.iconst 0, 1) := by decide +kernel
theorem dX1_start_43 : decode cX1_start 43 = .ok (.goto 4, 3) := by decide +kernel
theorem dX1_start_46 : decode cX1_start 46 = .ok (.iconst 2, 1) := by decide +kernel
theorem dX1_start_47 : decode cX1_start 47 = .ok (.invokevirtual 81, 3) := by decide +kernel
theorem dX1_start_50 : decode cX1_start 50 = .ok (.ifCond .eq 22, 3) := by decide +kernel
theorem dX1_start_53 : decode cX1_start 53 = .ok (.aload_n 0, 1) := by decide +kernel
theorem dX1_start_54 : decode cX1_start 54 = .ok (.iload_n 1, 1) := by decide +kernel
theorem dX1_start_55 : decode cX1_start 55 = .ok (.putfield 40, 3) := by decide +kernel
theorem dX1_start_58 : decode cX1_start 58 = .ok (.aload_n 0, 1) := by decide +kernel
theorem dX1_start_59 : decode cX1_start 59 = .ok (.iload_n 2, 1) := by decide +kernel
theorem dX1_start_60 : decode cX1_start 60 = .ok (.putfield 43, 3) := by decide +kernel
theorem dX1_start_63 : decode cX1_start 63 = .ok (.aload_n 0, 1) := by decide +kernel
theorem dX1_start_64 : decode cX1_start 64 = .ok (.invokevirtual 91, 3) := by decide +kernel
theorem dX1_start_67 : decode cX1_start 67 = .ok (.aload_n 0, 1) := by decide +kernel
theorem dX1_start_68 : decode cX1_start 68 = .ok (.iconst 1, 1) := by decide +kernel
theorem dX1_start_69 : decode cX1_start 69 = .ok (.putfield 58, 3) := by decide +kernel
theorem dX1_start_72 : decode cX1_start 72 = .ok (.return_, 1) := by decide +kernel
theorem dX1_setPace_0 : decode cX1_setPace 0 = .ok (.aload_n 0, 1) := by decide +kernel
theorem dX1_setPace_1 : decode cX1_setPace 1 = .ok (.iload_n 1, 1) := by decide +kernel
theorem dX1_setPace_2 : decode cX1_setPace 2 = .ok (.iconst 1, 1) := by decide +kernel
theorem dX1_setPace_3 : decode cX1_setPace 3 = .ok (.bipush 40, 2) := by decide +kernel
theorem dX1_setPace_5 : decode cX1_setPace 5 = .ok (.invokestatic 36, 3) := by decide +kernel
theorem dX1_setPace_8 : decode cX1_setPace 8 = .ok (.ifCond .eq 17, 3) := by decide +kernel
theorem dX1_setPace_11 : decode cX1_setPace 11 = .ok (.iload_n 2, 1) := by decide +kernel
theorem dX1_setPace_12 : decode cX1_setPace 12 = .ok (.iconst 0, 1) := by decide +kernel
theorem dX1_setPace_13 : decode cX1_setPace 13 = .ok (.bipush 100, 2) := by decide +kernel
theorem dX1_setPace_15 : decode cX1_setPace 15 = .ok (.invokestatic 36, 3) := by decide +kernel
theorem dX1_setPace_18 : decode cX1_setPace 18 = .ok (.ifCond .eq 7, 3) := by decide +kernel
theorem dX1_setPace_21 : decode cX1_setPace 21 = .ok (.iconst 0, 1) := by decide +kernel
theorem dX1_setPace_22 : decode cX1_setPace 22 = .ok (.goto 4, 3) := by decide +kernel
theorem dX1_setPace_25 : decode cX1_setPace 25 = .ok (.iconst 1, 1) := by decide +kernel
theorem dX1_setPace_26 : decode cX1_setPace 26 = .ok (.invokevirtual 81, 3) := by decide +kernel
theorem dX1_setPace_29 : decode cX1_setPace 29 = .ok (.ifCond .eq 13, 3) := by decide +kernel
theorem dX1_setPace_32 : decode cX1_setPace 32 = .ok (.aload_n 0, 1) := by decide +kernel
theorem dX1_setPace_33 : decode cX1_setPace 33 = .ok (.iload_n 1, 1) := by decide +kernel
theorem dX1_setPace_34 : decode cX1_setPace 34 = .ok (.putfield 23, 3) := by decide +kernel
theorem dX1_setPace_37 : decode cX1_setPace 37 = .ok (.aload_n 0, 1) := by decide +kernel
theorem dX1_setPace_38 : decode cX1_setPace 38 = .ok (.iload_n 2, 1) := by decide +kernel
theorem dX1_setPace_39 : decode cX1_setPace 39 = .ok (.putfield 27, 3) := by decide +kernel
theorem dX1_setPace_42 : decode cX1_setPace 42 = .ok (.return_, 1) := by decide +kernel
theorem dX1_plays_0 : decode cX1_plays 0 = .ok (.iconst 0, 1) := by decide +kernel
theorem dX1_plays_1 : decode cX1_plays 1 = .ok (.istore_n 2, 1) := by decide +kernel
theorem dX1_plays_2 : decode cX1_plays 2 = .ok (.iload_n 2, 1) := by decide +kernel
theorem dX1_plays_3 : decode cX1_plays 3 = .ok (.iload_n 1, 1) := by decide +kernel
theorem dX1_plays_4 : decode cX1_plays 4 = .ok (.if_icmp .ge 19, 3) := by decide +kernel
theorem dX1_plays_7 : decode cX1_plays 7 = .ok (.aload_n 0, 1) := by decide +kernel
theorem dX1_plays_8 : decode cX1_plays 8 = .ok (.aload_n 0, 1) := by decide +kernel
theorem dX1_plays_9 : decode cX1_plays 9 = .ok (.getfield 30, 3) := by decide +kernel
theorem dX1_plays_12 : decode cX1_plays 12 = .ok (.iload_n 2, 1) := by decide +kernel
theorem dX1_plays_13 : decode cX1_plays 13 = .ok (.iaload, 1) := by decide +kernel
theorem dX1_plays_14 : decode cX1_plays 14 = .ok (.invokevirtual 64, 3) := by decide +kernel
theorem dX1_plays_17 : decode cX1_plays 17 = .ok (.iinc 2 1, 3) := by decide +kernel
theorem dX1_plays_20 : decode cX1_plays 20 = .ok (.goto (-18), 3) := by decide +kernel
theorem dX1_plays_23 : decode cX1_plays 23 = .ok (.iload_n 1, 1) := by decide +kernel
theorem dX1_plays_24 : decode cX1_plays 24 = .ok (.istore_n 2, 1) := by decide +kernel
theorem dX1_plays_25 : decode cX1_plays 25 = .ok (.iload_n 2, 1) := by decide +kernel
theorem dX1_plays_26 : decode cX1_plays 26 = .ok (.aload_n 0, 1) := by decide +kernel
theorem dX1_plays_27 : decode cX1_plays 27 = .ok (.getfield 61, 3) := by decide +kernel
theorem dX1_plays_30 : decode cX1_plays 30 = .ok (.if_icmp .ge 23, 3) := by decide +kernel
theorem dX1_plays_33 : decode cX1_plays 33 = .ok (.aload_n 0, 1) := by decide +kernel
theorem dX1_plays_34 : decode cX1_plays 34 = .ok (.getfield 30, 3) := by decide +kernel
theorem dX1_plays_37 : decode cX1_plays 37 = .ok (.iload_n 2, 1) := by decide +kernel
theorem dX1_plays_38 : decode cX1_plays 38 = .ok (.iload_n 1, 1) := by decide +kernel
theorem dX1_plays_39 : decode cX1_plays 39 = .ok (.isub, 1) := by decide +kernel
theorem dX1_plays_40 : decode cX1_plays 40 = .ok (.aload_n 0, 1) := by decide +kernel
theorem dX1_plays_41 : decode cX1_plays 41 = .ok (.getfield 30, 3) := by decide +kernel
theorem dX1_plays_44 : decode cX1_plays 44 = .ok (.iload_n 2, 1) := by decide +kernel
theorem dX1_plays_45 : decode cX1_plays 45 = .ok (.iaload, 1) := by decide +kernel
theorem dX1_plays_46 : decode cX1_plays 46 = .ok (.iastore, 1) := by decide +kernel
theorem dX1_plays_47 : decode cX1_plays 47 = .ok (.iinc 2 1, 3) := by decide +kernel
theorem dX1_plays_50 : decode cX1_plays 50 = .ok (.goto (-25), 3) := by decide +kernel
theorem dX1_plays_53 : decode cX1_plays 53 = .ok (.aload_n 0, 1) := by decide +kernel
theorem dX1_plays_54 : decode cX1_plays 54 = .ok (.dup, 1) := by decide +kernel
theorem dX1_plays_55 : decode cX1_plays 55 = .ok (.getfield 61, 3) := by decide +kernel
theorem dX1_plays_58 : decode cX1_plays 58 = .ok (.iload_n 1, 1) := by decide +kernel
theorem dX1_plays_59 : decode cX1_plays 59 = .ok (.isub, 1) := by decide +kernel
theorem dX1_plays_60 : decode cX1_plays 60 = .ok (.putfield 61, 3) := by decide +kernel
theorem dX1_plays_63 : decode cX1_plays 63 = .ok (.return_, 1) := by decide +kernel
theorem dX1_tick_0 : decode cX1_tick 0 = .ok (.aload_n 0, 1) := by decide +kernel
theorem dX1_tick_1 : decode cX1_tick 1 = .ok (.iload_n 1, 1) := by decide +kernel
theorem dX1_tick_2 : decode cX1_tick 2 = .ok (.iconst 0, 1) := by decide +kernel
theorem dX1_tick_3 : decode cX1_tick 3 = .ok (.sipush 1000, 3) := by decide +kernel
theorem dX1_tick_6 : decode cX1_tick 6 = .ok (.invokestatic 36, 3) := by decide +kernel
theorem dX1_tick_9 : decode cX1_tick 9 = .ok (.ifCond .ne 7, 3) := by decide +kernel
theorem dX1_tick_12 : decode cX1_tick 12 = .ok (.iconst 1, 1) := by decide +kernel
theorem dX1_tick_13 : decode cX1_tick 13 = .ok (.goto 16, 3) := by decide +kernel
theorem dX1_tick_16 : decode cX1_tick 16 = .ok (.aload_n 0, 1) := by decide +kernel
theorem dX1_tick_17 : decode cX1_tick 17 = .ok (.getfield 58, 3) := by decide +kernel
theorem dX1_tick_20 : decode cX1_tick 20 = .ok (.iconst 1, 1) := by decide +kernel
theorem dX1_tick_21 : decode cX1_tick 21 = .ok (.if_icmp .ne 7, 3) := by decide +kernel
theorem dX1_tick_24 : decode cX1_tick 24 = .ok (.iconst 0, 1) := by decide +kernel
theorem dX1_tick_25 : decode cX1_tick 25 = .ok (.goto 4, 3) := by decide +kernel
theorem dX1_tick_28 : decode cX1_tick 28 = .ok (.iconst 2, 1) := by decide +kernel
theorem dX1_tick_29 : decode cX1_tick 29 = .ok (.invokevirtual 81, 3) := by decide +kernel
theorem dX1_tick_32 : decode cX1_tick 32 = .ok (.ifCond .ne 5, 3) := by decide +kernel
theorem dX1_tick_35 : decode cX1_tick 35 = .ok (.iconst 0, 1) := by decide +kernel
theorem dX1_tick_36 : decode cX1_tick 36 = .ok (.ireturn, 1) := by decide +kernel
theorem dX1_tick_37 : decode cX1_tick 37 = .ok (.iload_n 1, 1) := by decide +kernel
theorem dX1_tick_38 : decode cX1_tick 38 = .ok (.aload_n 0, 1) := by decide +kernel
theorem dX1_tick_39 : decode cX1_tick 39 = .ok (.getfield 27, 3) := by decide +kernel
theorem dX1_tick_42 : decode cX1_tick 42 = .ok (.if_icmp .le 5, 3) := by decide +kernel
theorem dX1_tick_45 : decode cX1_tick 45 = .ok (.iconst 0, 1) := by decide +kernel
theorem dX1_tick_46 : decode cX1_tick 46 = .ok (.ireturn, 1) := by decide +kernel
theorem dX1_tick_47 : decode cX1_tick 47 = .ok (.aload_n 0, 1) := by decide +kernel
theorem dX1_tick_48 : decode cX1_tick 48 = .ok (.getfield 88, 3) := by decide +kernel
theorem dX1_tick_51 : decode cX1_tick 51 = .ok (.bipush 40, 2) := by decide +kernel
theorem dX1_tick_53 : decode cX1_tick 53 = .ok (.if_icmp .ge 13, 3) := by decide +kernel
theorem dX1_tick_56 : decode cX1_tick 56 = .ok (.bipush 40, 2) := by decide +kernel
theorem dX1_tick_58 : decode cX1_tick 58 = .ok (.aload_n 0, 1) := by decide +kernel
theorem dX1_tick_59 : decode cX1_tick 59 = .ok (.getfield 88, 3) := by decide +kernel
theorem dX1_tick_62 : decode cX1_tick 62 = .ok (.isub, 1) := by decide +kernel
theorem dX1_tick_63 : decode cX1_tick 63 = .ok (.goto 7, 3) := by decide +kernel
theorem dX1_tick_66 : decode cX1_tick 66 = .ok (.aload_n 0, 1) := by decide +kernel
theorem dX1_tick_67 : decode cX1_tick 67 = .ok (.getfield 61, 3) := by decide +kernel
theorem dX1_tick_70 : decode cX1_tick 70 = .ok (.istore_n 2, 1) := by decide +kernel
theorem dX1_tick_71 : decode cX1_tick 71 = .ok (.iload_n 2, 1) := by decide +kernel
theorem dX1_tick_72 : decode cX1_tick 72 = .ok (.aload_n 0, 1) := by decide +kernel
theorem dX1_tick_73 : decode cX1_tick 73 = .ok (.getfield 23, 3) := by decide +kernel
theorem dX1_tick_76 : decode cX1_tick 76 = .ok (.if_icmp .ge 7, 3) := by decide +kernel
theorem dX1_tick_79 : decode cX1_tick 79 = .ok (.iload_n 2, 1) := by decide +kernel
theorem dX1_tick_80 : decode cX1_tick 80 = .ok (.goto 7, 3) := by decide +kernel
theorem dX1_tick_83 : decode cX1_tick 83 = .ok (.aload_n 0, 1) := by decide +kernel
theorem dX1_tick_84 : decode cX1_tick 84 = .ok (.getfield 23, 3) := by decide +kernel
theorem dX1_tick_87 : decode cX1_tick 87 = .ok (.istore_n 3, 1) := by decide +kernel
theorem dX1_tick_88 : decode cX1_tick 88 = .ok (.aload_n 0, 1) := by decide +kernel
theorem dX1_tick_89 : decode cX1_tick 89 = .ok (.getfield 88, 3) := by decide +kernel
theorem dX1_tick_92 : decode cX1_tick 92 = .ok (.bipush 40, 2) := by decide +kernel
theorem dX1_tick_94 : decode cX1_tick 94 = .ok (.if_icmp .ge 39, 3) := by decide +kernel
theorem dX1_tick_97 : decode cX1_tick 97 = .ok (.iconst 0, 1) := by decide +kernel
theorem dX1_tick_98 : decode cX1_tick 98 = .ok (.istore 4, 2) := by decide +kernel
theorem dX1_tick_100 : decode cX1_tick 100 = .ok (.iload 4, 2) := by decide +kernel
theorem dX1_tick_102 : decode cX1_tick 102 = .ok (.iload_n 3, 1) := by decide +kernel
theorem dX1_tick_103 : decode cX1_tick 103 = .ok (.if_icmp .ge 27, 3) := by decide +kernel
theorem dX1_tick_106 : decode cX1_tick 106 = .ok (.aload_n 0, 1) := by decide +kernel
theorem dX1_tick_107 : decode cX1_tick 107 = .ok (.aload_n 0, 1) := by decide +kernel
theorem dX1_tick_108 : decode cX1_tick 108 = .ok (.getfield 88, 3) := by decide +kernel
theorem dX1_tick_111 : decode cX1_tick 111 = .ok (.invokevirtual 64, 3) := by decide +kernel
theorem dX1_tick_114 : decode cX1_tick 114 = .ok (.aload_n 0, 1) := by decide +kernel
theorem dX1_tick_115 : decode cX1_tick 115 = .ok (.dup, 1) := by decide +kernel
theorem dX1_tick_116 : decode cX1_tick 116 = .ok (.getfield 88, 3) := by decide +kernel
theorem dX1_tick_119 : decode cX1_tick 119 = .ok (.iconst 1, 1) := by decide +kernel
theorem dX1_tick_120 : decode cX1_tick 120 = .ok (.iadd, 1) := by decide +kernel
theorem dX1_tick_121 : decode cX1_tick 121 = .ok (.putfield 88, 3) := by decide +kernel
theorem dX1_tick_124 : decode cX1_tick 124 = .ok (.iinc 4 1, 3) := by decide +kernel
theorem dX1_tick_127 : decode cX1_tick 127 = .ok (.goto (-27), 3) := by decide +kernel
theorem dX1_tick_130 : decode cX1_tick 130 = .ok (.goto 8, 3) := by decide +kernel
theorem dX1_tick_133 : decode cX1_tick 133 = .ok (.aload_n 0, 1) := by decide +kernel
theorem dX1_tick_134 : decode cX1_tick 134 = .ok (.iload_n 3, 1) := by decide +kernel
theorem dX1_tick_135 : decode cX1_tick 135 = .ok (.invokevirtual 94, 3) := by decide +kernel
theorem dX1_tick_138 : decode cX1_tick 138 = .ok (.iload_n 3, 1) := by decide +kernel
theorem dX1_tick_139 : decode cX1_tick 139 = .ok (.ireturn, 1) := by decide +kernel
theorem dX1_cutOver_0 : decode cX1_cutOver 0 = .ok (.aload_n 0, 1) := by decide +kernel
theorem dX1_cutOver_1 : decode cX1_cutOver 1 = .ok (.iload_n 1, 1) := by decide +kernel
theorem dX1_cutOver_2 : decode cX1_cutOver 2 = .ok (.iconst 0, 1) := by decide +kernel
theorem dX1_cutOver_3 : decode cX1_cutOver 3 = .ok (.sipush 1000, 3) := by decide +kernel
theorem dX1_cutOver_6 : decode cX1_cutOver 6 = .ok (.invokestatic 36, 3) := by decide +kernel
theorem dX1_cutOver_9 : decode cX1_cutOver 9 = .ok (.ifCond .ne 7, 3) := by decide +kernel
theorem dX1_cutOver_12 : decode cX1_cutOver 12 = .ok (.iconst 1, 1) := by decide +kernel
theorem dX1_cutOver_13 : decode cX1_cutOver 13 = .ok (.goto 33, 3) := by decide +kernel
theorem dX1_cutOver_16 : decode cX1_cutOver 16 = .ok (.aload_n 0, 1) := by decide +kernel
theorem dX1_cutOver_17 : decode cX1_cutOver 17 = .ok (.getfield 58, 3) := by decide +kernel
theorem dX1_cutOver_20 : decode cX1_cutOver 20 = .ok (.iconst 1, 1) := by decide +kernel
theorem dX1_cutOver_21 : decode cX1_cutOver 21 = .ok (.if_icmp .ne 20, 3) := by decide +kernel
theorem dX1_cutOver_24 : decode cX1_cutOver 24 = .ok (.aload_n 0, 1) := by decide +kernel
theorem dX1_cutOver_25 : decode cX1_cutOver 25 = .ok (.getfield 88, 3) := by decide +kernel
theorem dX1_cutOver_28 : decode cX1_cutOver 28 = .ok (.bipush 40, 2) := by decide +kernel
theorem dX1_cutOver_30 : decode cX1_cutOver 30 = .ok (.if_icmp .lt 11, 3) := by decide +kernel
theorem dX1_cutOver_33 : decode cX1_cutOver 33 = .ok (.aload_n 0, 1) := by decide +kernel
theorem dX1_cutOver_34 : decode cX1_cutOver 34 = .ok (.getfield 61, 3) := by decide +kernel
theorem dX1_cutOver_37 : decode cX1_cutOver 37 = .ok (.iload_n 1, 1) := by decide +kernel
theorem dX1_cutOver_38 : decode cX1_cutOver 38 = .ok (.if_icmp .le 7, 3) := by decide +kernel
theorem dX1_cutOver_41 : decode cX1_cutOver 41 = .ok (.iconst 2, 1) := by decide +kernel
theorem dX1_cutOver_42 : decode cX1_cutOver 42 = .ok (.goto 4, 3) := by decide +kernel
theorem dX1_cutOver_45 : decode cX1_cutOver 45 = .ok (.iconst 0, 1) := by decide +kernel
theorem dX1_cutOver_46 : decode cX1_cutOver 46 = .ok (.invokevirtual 81, 3) := by decide +kernel
theorem dX1_cutOver_49 : decode cX1_cutOver 49 = .ok (.ifCond .ne 5, 3) := by decide +kernel
theorem dX1_cutOver_52 : decode cX1_cutOver 52 = .ok (.iconst 0, 1) := by decide +kernel
theorem dX1_cutOver_53 : decode cX1_cutOver 53 = .ok (.ireturn, 1) := by decide +kernel
theorem dX1_cutOver_54 : decode cX1_cutOver 54 = .ok (.aload_n 0, 1) := by decide +kernel
theorem dX1_cutOver_55 : decode cX1_cutOver 55 = .ok (.getfield 61, 3) := by decide +kernel
theorem dX1_cutOver_58 : decode cX1_cutOver 58 = .ok (.istore_n 2, 1) := by decide +kernel
theorem dX1_cutOver_59 : decode cX1_cutOver 59 = .ok (.aload_n 0, 1) := by decide +kernel
theorem dX1_cutOver_60 : decode cX1_cutOver 60 = .ok (.iload_n 2, 1) := by decide +kernel
theorem dX1_cutOver_61 : decode cX1_cutOver 61 = .ok (.invokevirtual 94, 3) := by decide +kernel
theorem dX1_cutOver_64 : decode cX1_cutOver 64 = .ok (.aload_n 0, 1) := by decide +kernel
theorem dX1_cutOver_65 : decode cX1_cutOver 65 = .ok (.iconst 2, 1) := by decide +kernel
theorem dX1_cutOver_66 : decode cX1_cutOver 66 = .ok (.putfield 58, 3) := by decide +kernel
theorem dX1_cutOver_69 : decode cX1_cutOver 69 = .ok (.iload_n 2, 1) := by decide +kernel
theorem dX1_cutOver_70 : decode cX1_cutOver 70 = .ok (.ireturn, 1) := by decide +kernel
theorem dX1_undo_0 : decode cX1_undo 0 = .ok (.aload_n 0, 1) := by decide +kernel
theorem dX1_undo_1 : decode cX1_undo 1 = .ok (.aload_n 0, 1) := by decide +kernel
theorem dX1_undo_2 : decode cX1_undo 2 = .ok (.getfield 58, 3) := by decide +kernel
theorem dX1_undo_5 : decode cX1_undo 5 = .ok (.iconst 2, 1) := by decide +kernel
theorem dX1_undo_6 : decode cX1_undo 6 = .ok (.if_icmp .ne 7, 3) := by decide +kernel
theorem dX1_undo_9 : decode cX1_undo 9 = .ok (.iconst 0, 1) := by decide +kernel
theorem dX1_undo_10 : decode cX1_undo 10 = .ok (.goto 4, 3) := by decide +kernel
theorem dX1_undo_13 : decode cX1_undo 13 = .ok (.iconst 1, 1) := by decide +kernel
theorem dX1_undo_14 : decode cX1_undo 14 = .ok (.invokevirtual 81, 3) := by decide +kernel
theorem dX1_undo_17 : decode cX1_undo 17 = .ok (.ifCond .eq 8, 3) := by decide +kernel
theorem dX1_undo_20 : decode cX1_undo 20 = .ok (.aload_n 0, 1) := by decide +kernel
theorem dX1_undo_21 : decode cX1_undo 21 = .ok (.iconst 1, 1) := by decide +kernel
theorem dX1_undo_22 : decode cX1_undo 22 = .ok (.putfield 58, 3) := by decide +kernel
theorem dX1_undo_25 : decode cX1_undo 25 = .ok (.return_, 1) := by decide +kernel
theorem dX1_shadowed_0 : decode cX1_shadowed 0 = .ok (.iconst 0, 1) := by decide +kernel
theorem dX1_shadowed_1 : decode cX1_shadowed 1 = .ok (.istore_n 1, 1) := by decide +kernel
theorem dX1_shadowed_2 : decode cX1_shadowed 2 = .ok (.iconst 0, 1) := by decide +kernel
theorem dX1_shadowed_3 : decode cX1_shadowed 3 = .ok (.istore_n 2, 1) := by decide +kernel
theorem dX1_shadowed_4 : decode cX1_shadowed 4 = .ok (.iload_n 2, 1) := by decide +kernel
theorem dX1_shadowed_5 : decode cX1_shadowed 5 = .ok (.bipush 40, 2) := by decide +kernel
theorem dX1_shadowed_7 : decode cX1_shadowed 7 = .ok (.if_icmp .ge 26, 3) := by decide +kernel
theorem dX1_shadowed_10 : decode cX1_shadowed 10 = .ok (.iload_n 1, 1) := by decide +kernel
theorem dX1_shadowed_11 : decode cX1_shadowed 11 = .ok (.aload_n 0, 1) := by decide +kernel
theorem dX1_shadowed_12 : decode cX1_shadowed 12 = .ok (.getfield 16, 3) := by decide +kernel
theorem dX1_shadowed_15 : decode cX1_shadowed 15 = .ok (.iload_n 2, 1) := by decide +kernel
theorem dX1_shadowed_16 : decode cX1_shadowed 16 = .ok (.baload, 1) := by decide +kernel
theorem dX1_shadowed_17 : decode cX1_shadowed 17 = .ok (.ifCond .eq 7, 3) := by decide +kernel
theorem dX1_shadowed_20 : decode cX1_shadowed 20 = .ok (.iconst 1, 1) := by decide +kernel
theorem dX1_shadowed_21 : decode cX1_shadowed 21 = .ok (.goto 4, 3) := by decide +kernel
theorem dX1_shadowed_24 : decode cX1_shadowed 24 = .ok (.iconst 0, 1) := by decide +kernel
theorem dX1_shadowed_25 : decode cX1_shadowed 25 = .ok (.iadd, 1) := by decide +kernel
theorem dX1_shadowed_26 : decode cX1_shadowed 26 = .ok (.istore_n 1, 1) := by decide +kernel
theorem dX1_shadowed_27 : decode cX1_shadowed 27 = .ok (.iinc 2 1, 3) := by decide +kernel
theorem dX1_shadowed_30 : decode cX1_shadowed 30 = .ok (.goto (-26), 3) := by decide +kernel
theorem dX1_shadowed_33 : decode cX1_shadowed 33 = .ok (.iload_n 1, 1) := by decide +kernel
theorem dX1_shadowed_34 : decode cX1_shadowed 34 = .ok (.ireturn, 1) := by decide +kernel
theorem dX1_finish_0 : decode cX1_finish 0 = .ok (.aload_n 0, 1) := by decide +kernel
theorem dX1_finish_1 : decode cX1_finish 1 = .ok (.aload_n 0, 1) := by decide +kernel
theorem dX1_finish_2 : decode cX1_finish 2 = .ok (.getfield 58, 3) := by decide +kernel
theorem dX1_finish_5 : decode cX1_finish 5 = .ok (.iconst 2, 1) := by decide +kernel
theorem dX1_finish_6 : decode cX1_finish 6 = .ok (.if_icmp .ne 7, 3) := by decide +kernel
theorem dX1_finish_9 : decode cX1_finish 9 = .ok (.iconst 0, 1) := by decide +kernel
theorem dX1_finish_10 : decode cX1_finish 10 = .ok (.goto 4, 3) := by decide +kernel
theorem dX1_finish_13 : decode cX1_finish 13 = .ok (.iconst 1, 1) := by decide +kernel
theorem dX1_finish_14 : decode cX1_finish 14 = .ok (.invokevirtual 81, 3) := by decide +kernel
theorem dX1_finish_17 : decode cX1_finish 17 = .ok (.ifCond .ne 5, 3) := by decide +kernel
theorem dX1_finish_20 : decode cX1_finish 20 = .ok (.iconst 0, 1) := by decide +kernel
theorem dX1_finish_21 : decode cX1_finish 21 = .ok (.ireturn, 1) := by decide +kernel
theorem dX1_finish_22 : decode cX1_finish 22 = .ok (.iconst 0, 1) := by decide +kernel
theorem dX1_finish_23 : decode cX1_finish 23 = .ok (.istore_n 1, 1) := by decide +kernel
theorem dX1_finish_24 : decode cX1_finish 24 = .ok (.iconst 0, 1) := by decide +kernel
theorem dX1_finish_25 : decode cX1_finish 25 = .ok (.istore_n 2, 1) := by decide +kernel
theorem dX1_finish_26 : decode cX1_finish 26 = .ok (.iload_n 2, 1) := by decide +kernel
theorem dX1_finish_27 : decode cX1_finish 27 = .ok (.bipush 40, 2) := by decide +kernel
theorem dX1_finish_29 : decode cX1_finish 29 = .ok (.if_icmp .ge 38, 3) := by decide +kernel
theorem dX1_finish_32 : decode cX1_finish 32 = .ok (.aload_n 0, 1) := by decide +kernel
theorem dX1_finish_33 : decode cX1_finish 33 = .ok (.getfield 7, 3) := by decide +kernel
theorem dX1_finish_36 : decode cX1_finish 36 = .ok (.iload_n 2, 1) := by decide +kernel
theorem dX1_finish_37 : decode cX1_finish 37 = .ok (.iaload, 1) := by decide +kernel
theorem dX1_finish_38 : decode cX1_finish 38 = .ok (.iconst (-1), 1) := by decide +kernel
theorem dX1_finish_39 : decode cX1_finish 39 = .ok (.if_icmp .eq 22, 3) := by decide +kernel
theorem dX1_finish_42 : decode cX1_finish 42 = .ok (.aload_n 0, 1) := by decide +kernel
theorem dX1_finish_43 : decode cX1_finish 43 = .ok (.getfield 16, 3) := by decide +kernel
theorem dX1_finish_46 : decode cX1_finish 46 = .ok (.iload_n 2, 1) := by decide +kernel
theorem dX1_finish_47 : decode cX1_finish 47 = .ok (.baload, 1) := by decide +kernel
theorem dX1_finish_48 : decode cX1_finish 48 = .ok (.ifCond .ne 13, 3) := by decide +kernel
theorem dX1_finish_51 : decode cX1_finish 51 = .ok (.aload_n 0, 1) := by decide +kernel
theorem dX1_finish_52 : decode cX1_finish 52 = .ok (.getfield 7, 3) := by decide +kernel
theorem dX1_finish_55 : decode cX1_finish 55 = .ok (.iload_n 2, 1) := by decide +kernel
theorem dX1_finish_56 : decode cX1_finish 56 = .ok (.iconst (-1), 1) := by decide +kernel
theorem dX1_finish_57 : decode cX1_finish 57 = .ok (.iastore, 1) := by decide +kernel
theorem dX1_finish_58 : decode cX1_finish 58 = .ok (.iinc 1 1, 3) := by decide +kernel
theorem dX1_finish_61 : decode cX1_finish 61 = .ok (.iinc 2 1, 3) := by decide +kernel
theorem dX1_finish_64 : decode cX1_finish 64 = .ok (.goto (-38), 3) := by decide +kernel
theorem dX1_finish_67 : decode cX1_finish 67 = .ok (.aload_n 0, 1) := by decide +kernel
theorem dX1_finish_68 : decode cX1_finish 68 = .ok (.invokevirtual 91, 3) := by decide +kernel
theorem dX1_finish_71 : decode cX1_finish 71 = .ok (.aload_n 0, 1) := by decide +kernel
theorem dX1_finish_72 : decode cX1_finish 72 = .ok (.iconst 0, 1) := by decide +kernel
theorem dX1_finish_73 : decode cX1_finish 73 = .ok (.putfield 58, 3) := by decide +kernel
theorem dX1_finish_76 : decode cX1_finish 76 = .ok (.iload_n 1, 1) := by decide +kernel
theorem dX1_finish_77 : decode cX1_finish 77 = .ok (.ireturn, 1) := by decide +kernel
theorem dX1_giveUp_0 : decode cX1_giveUp 0 = .ok (.aload_n 0, 1) := by decide +kernel
theorem dX1_giveUp_1 : decode cX1_giveUp 1 = .ok (.aload_n 0, 1) := by decide +kernel
theorem dX1_giveUp_2 : decode cX1_giveUp 2 = .ok (.getfield 58, 3) := by decide +kernel
theorem dX1_giveUp_5 : decode cX1_giveUp 5 = .ok (.iconst 1, 1) := by decide +kernel
theorem dX1_giveUp_6 : decode cX1_giveUp 6 = .ok (.if_icmp .ne 7, 3) := by decide +kernel
theorem dX1_giveUp_9 : decode cX1_giveUp 9 = .ok (.iconst 0, 1) := by decide +kernel
theorem dX1_giveUp_10 : decode cX1_giveUp 10 = .ok (.goto 4, 3) := by decide +kernel
theorem dX1_giveUp_13 : decode cX1_giveUp 13 = .ok (.iconst 1, 1) := by decide +kernel
theorem dX1_giveUp_14 : decode cX1_giveUp 14 = .ok (.invokevirtual 81, 3) := by decide +kernel
theorem dX1_giveUp_17 : decode cX1_giveUp 17 = .ok (.ifCond .ne 5, 3) := by decide +kernel
theorem dX1_giveUp_20 : decode cX1_giveUp 20 = .ok (.iconst 0, 1) := by decide +kernel
theorem dX1_giveUp_21 : decode cX1_giveUp 21 = .ok (.ireturn, 1) := by decide +kernel
theorem dX1_giveUp_22 : decode cX1_giveUp 22 = .ok (.aload_n 0, 1) := by decide +kernel
theorem dX1_giveUp_23 : decode cX1_giveUp 23 = .ok (.invokevirtual 97, 3) := by decide +kernel
theorem dX1_giveUp_26 : decode cX1_giveUp 26 = .ok (.istore_n 1, 1) := by decide +kernel
theorem dX1_giveUp_27 : decode cX1_giveUp 27 = .ok (.aload_n 0, 1) := by decide +kernel
theorem dX1_giveUp_28 : decode cX1_giveUp 28 = .ok (.invokevirtual 91, 3) := by decide +kernel
theorem dX1_giveUp_31 : decode cX1_giveUp 31 = .ok (.aload_n 0, 1) := by decide +kernel
theorem dX1_giveUp_32 : decode cX1_giveUp 32 = .ok (.iconst 0, 1) := by decide +kernel
theorem dX1_giveUp_33 : decode cX1_giveUp 33 = .ok (.putfield 58, 3) := by decide +kernel
theorem dX1_giveUp_36 : decode cX1_giveUp 36 = .ok (.iload_n 1, 1) := by decide +kernel
theorem dX1_giveUp_37 : decode cX1_giveUp 37 = .ok (.ireturn, 1) := by decide +kernel
theorem dX1_row_0 : decode cX1_row 0 = .ok (.aload_n 0, 1) := by decide +kernel
theorem dX1_row_1 : decode cX1_row 1 = .ok (.iload_n 1, 1) := by decide +kernel
theorem dX1_row_2 : decode cX1_row 2 = .ok (.invokestatic 68, 3) := by decide +kernel
theorem dX1_row_5 : decode cX1_row 5 = .ok (.ifCond .eq 7, 3) := by decide +kernel
theorem dX1_row_8 : decode cX1_row 8 = .ok (.iconst 0, 1) := by decide +kernel
theorem dX1_row_9 : decode cX1_row 9 = .ok (.goto 4, 3) := by decide +kernel
theorem dX1_row_12 : decode cX1_row 12 = .ok (.iconst 1, 1) := by decide +kernel
theorem dX1_row_13 : decode cX1_row 13 = .ok (.invokevirtual 81, 3) := by decide +kernel
theorem dX1_row_16 : decode cX1_row 16 = .ok (.ifCond .eq 24, 3) := by decide +kernel
theorem dX1_row_19 : decode cX1_row 19 = .ok (.aload_n 0, 1) := by decide +kernel
theorem dX1_row_20 : decode cX1_row 20 = .ok (.iload_n 1, 1) := by decide +kernel
theorem dX1_row_21 : decode cX1_row 21 = .ok (.invokevirtual 78, 3) := by decide +kernel
theorem dX1_row_24 : decode cX1_row 24 = .ok (.ifCond .eq 12, 3) := by decide +kernel
theorem dX1_row_27 : decode cX1_row 27 = .ok (.aload_n 0, 1) := by decide +kernel
theorem dX1_row_28 : decode cX1_row 28 = .ok (.getfield 7, 3) := by decide +kernel
theorem dX1_row_31 : decode cX1_row 31 = .ok (.iload_n 1, 1) := by decide +kernel
theorem dX1_row_32 : decode cX1_row 32 = .ok (.iaload, 1) := by decide +kernel
theorem dX1_row_33 : decode cX1_row 33 = .ok (.goto 8, 3) := by decide +kernel
theorem dX1_row_36 : decode cX1_row 36 = .ok (.iconst (-1), 1) := by decide +kernel
theorem dX1_row_37 : decode cX1_row 37 = .ok (.goto 4, 3) := by decide +kernel
theorem dX1_row_40 : decode cX1_row 40 = .ok (.iconst 0, 1) := by decide +kernel
theorem dX1_row_41 : decode cX1_row 41 = .ok (.ireturn, 1) := by decide +kernel
theorem dX1_rows_0 : decode cX1_rows 0 = .ok (.aload_n 0, 1) := by decide +kernel
theorem dX1_rows_1 : decode cX1_rows 1 = .ok (.iconst 0, 1) := by decide +kernel
theorem dX1_rows_2 : decode cX1_rows 2 = .ok (.putfield 33, 3) := by decide +kernel
theorem dX1_rows_5 : decode cX1_rows 5 = .ok (.iconst 0, 1) := by decide +kernel
theorem dX1_rows_6 : decode cX1_rows 6 = .ok (.istore_n 1, 1) := by decide +kernel
theorem dX1_rows_7 : decode cX1_rows 7 = .ok (.iconst 0, 1) := by decide +kernel
theorem dX1_rows_8 : decode cX1_rows 8 = .ok (.istore_n 2, 1) := by decide +kernel
theorem dX1_rows_9 : decode cX1_rows 9 = .ok (.iload_n 2, 1) := by decide +kernel
theorem dX1_rows_10 : decode cX1_rows 10 = .ok (.bipush 40, 2) := by decide +kernel
theorem dX1_rows_12 : decode cX1_rows 12 = .ok (.if_icmp .ge 25, 3) := by decide +kernel
theorem dX1_rows_15 : decode cX1_rows 15 = .ok (.iload_n 1, 1) := by decide +kernel
theorem dX1_rows_16 : decode cX1_rows 16 = .ok (.aload_n 0, 1) := by decide +kernel
theorem dX1_rows_17 : decode cX1_rows 17 = .ok (.iload_n 2, 1) := by decide +kernel
theorem dX1_rows_18 : decode cX1_rows 18 = .ok (.invokevirtual 78, 3) := by decide +kernel
theorem dX1_rows_21 : decode cX1_rows 21 = .ok (.ifCond .eq 7, 3) := by decide +kernel
theorem dX1_rows_24 : decode cX1_rows 24 = .ok (.iconst 1, 1) := by decide +kernel
theorem dX1_rows_25 : decode cX1_rows 25 = .ok (.goto 4, 3) := by decide +kernel
theorem dX1_rows_28 : decode cX1_rows 28 = .ok (.iconst 0, 1) := by decide +kernel
theorem dX1_rows_29 : decode cX1_rows 29 = .ok (.iadd, 1) := by decide +kernel
theorem dX1_rows_30 : decode cX1_rows 30 = .ok (.istore_n 1, 1) := by decide +kernel
theorem dX1_rows_31 : decode cX1_rows 31 = .ok (.iinc 2 1, 3) := by decide +kernel
theorem dX1_rows_34 : decode cX1_rows 34 = .ok (.goto (-25), 3) := by decide +kernel
theorem dX1_rows_37 : decode cX1_rows 37 = .ok (.iload_n 1, 1) := by decide +kernel
theorem dX1_rows_38 : decode cX1_rows 38 = .ok (.ireturn, 1) := by decide +kernel
theorem dX1_phase_0 : decode cX1_phase 0 = .ok (.aload_n 0, 1) := by decide +kernel
theorem dX1_phase_1 : decode cX1_phase 1 = .ok (.iconst 0, 1) := by decide +kernel
theorem dX1_phase_2 : decode cX1_phase 2 = .ok (.putfield 33, 3) := by decide +kernel
theorem dX1_phase_5 : decode cX1_phase 5 = .ok (.aload_n 0, 1) := by decide +kernel
theorem dX1_phase_6 : decode cX1_phase 6 = .ok (.getfield 58, 3) := by decide +kernel
theorem dX1_phase_9 : decode cX1_phase 9 = .ok (.ireturn, 1) := by decide +kernel
theorem dX1_mark_0 : decode cX1_mark 0 = .ok (.aload_n 0, 1) := by decide +kernel
theorem dX1_mark_1 : decode cX1_mark 1 = .ok (.iconst 0, 1) := by decide +kernel
theorem dX1_mark_2 : decode cX1_mark 2 = .ok (.putfield 33, 3) := by decide +kernel
theorem dX1_mark_5 : decode cX1_mark 5 = .ok (.aload_n 0, 1) := by decide +kernel
theorem dX1_mark_6 : decode cX1_mark 6 = .ok (.getfield 58, 3) := by decide +kernel
theorem dX1_mark_9 : decode cX1_mark 9 = .ok (.ifCond .ne 7, 3) := by decide +kernel
theorem dX1_mark_12 : decode cX1_mark 12 = .ok (.iconst (-1), 1) := by decide +kernel
theorem dX1_mark_13 : decode cX1_mark 13 = .ok (.goto 7, 3) := by decide +kernel
theorem dX1_mark_16 : decode cX1_mark 16 = .ok (.aload_n 0, 1) := by decide +kernel
theorem dX1_mark_17 : decode cX1_mark 17 = .ok (.getfield 88, 3) := by decide +kernel
theorem dX1_mark_20 : decode cX1_mark 20 = .ok (.ireturn, 1) := by decide +kernel
theorem dX1_notes_0 : decode cX1_notes 0 = .ok (.aload_n 0, 1) := by decide +kernel
theorem dX1_notes_1 : decode cX1_notes 1 = .ok (.iconst 0, 1) := by decide +kernel
theorem dX1_notes_2 : decode cX1_notes 2 = .ok (.putfield 33, 3) := by decide +kernel
theorem dX1_notes_5 : decode cX1_notes 5 = .ok (.aload_n 0, 1) := by decide +kernel
theorem dX1_notes_6 : decode cX1_notes 6 = .ok (.getfield 61, 3) := by decide +kernel
theorem dX1_notes_9 : decode cX1_notes 9 = .ok (.ireturn, 1) := by decide +kernel
theorem dX1_isColumn_0 : decode cX1_isColumn 0 = .ok (.iload_n 0, 1) := by decide +kernel
theorem dX1_isColumn_1 : decode cX1_isColumn 1 = .ok (.iconst 0, 1) := by decide +kernel
theorem dX1_isColumn_2 : decode cX1_isColumn 2 = .ok (.iconst 2, 1) := by decide +kernel
theorem dX1_isColumn_3 : decode cX1_isColumn 3 = .ok (.invokestatic 36, 3) := by decide +kernel
theorem dX1_isColumn_6 : decode cX1_isColumn 6 = .ok (.ireturn, 1) := by decide +kernel
theorem dX1_shadow_0 : decode cX1_shadow 0 = .ok (.aload_n 0, 1) := by decide +kernel
theorem dX1_shadow_1 : decode cX1_shadow 1 = .ok (.iload_n 1, 1) := by decide +kernel
theorem dX1_shadow_2 : decode cX1_shadow 2 = .ok (.invokestatic 68, 3) := by decide +kernel
theorem dX1_shadow_5 : decode cX1_shadow 5 = .ok (.ifCond .eq 14, 3) := by decide +kernel
theorem dX1_shadow_8 : decode cX1_shadow 8 = .ok (.iload_n 2, 1) := by decide +kernel
theorem dX1_shadow_9 : decode cX1_shadow 9 = .ok (.invokestatic 101, 3) := by decide +kernel
theorem dX1_shadow_12 : decode cX1_shadow 12 = .ok (.ifCond .eq 7, 3) := by decide +kernel
theorem dX1_shadow_15 : decode cX1_shadow 15 = .ok (.iconst 0, 1) := by decide +kernel
theorem dX1_shadow_16 : decode cX1_shadow 16 = .ok (.goto 4, 3) := by decide +kernel
theorem dX1_shadow_19 : decode cX1_shadow 19 = .ok (.iconst 1, 1) := by decide +kernel
theorem dX1_shadow_20 : decode cX1_shadow 20 = .ok (.invokevirtual 81, 3) := by decide +kernel
theorem dX1_shadow_23 : decode cX1_shadow 23 = .ok (.ifCond .ne 5, 3) := by decide +kernel
theorem dX1_shadow_26 : decode cX1_shadow 26 = .ok (.iconst 0, 1) := by decide +kernel
theorem dX1_shadow_27 : decode cX1_shadow 27 = .ok (.ireturn, 1) := by decide +kernel
theorem dX1_shadow_28 : decode cX1_shadow 28 = .ok (.aload_n 0, 1) := by decide +kernel
theorem dX1_shadow_29 : decode cX1_shadow 29 = .ok (.getfield 16, 3) := by decide +kernel
theorem dX1_shadow_32 : decode cX1_shadow 32 = .ok (.iload_n 1, 1) := by decide +kernel
theorem dX1_shadow_33 : decode cX1_shadow 33 = .ok (.baload, 1) := by decide +kernel
theorem dX1_shadow_34 : decode cX1_shadow 34 = .ok (.ifCond .eq 16, 3) := by decide +kernel
theorem dX1_shadow_37 : decode cX1_shadow 37 = .ok (.aload_n 0, 1) := by decide +kernel
theorem dX1_shadow_38 : decode cX1_shadow 38 = .ok (.getfield 13, 3) := by decide +kernel
theorem dX1_shadow_41 : decode cX1_shadow 41 = .ok (.iconst 3, 1) := by decide +kernel
theorem dX1_shadow_42 : decode cX1_shadow 42 = .ok (.iload_n 1, 1) := by decide +kernel
theorem dX1_shadow_43 : decode cX1_shadow 43 = .ok (.imul, 1) := by decide +kernel
theorem dX1_shadow_44 : decode cX1_shadow 44 = .ok (.iload_n 2, 1) := by decide +kernel
theorem dX1_shadow_45 : decode cX1_shadow 45 = .ok (.iadd, 1) := by decide +kernel
theorem dX1_shadow_46 : decode cX1_shadow 46 = .ok (.iaload, 1) := by decide +kernel
theorem dX1_shadow_47 : decode cX1_shadow 47 = .ok (.goto 4, 3) := by decide +kernel
theorem dX1_shadow_50 : decode cX1_shadow 50 = .ok (.iconst (-1), 1) := by decide +kernel
theorem dX1_shadow_51 : decode cX1_shadow 51 = .ok (.ireturn, 1) := by decide +kernel
theorem dX1_shadowRows_0 : decode cX1_shadowRows 0 = .ok (.aload_n 0, 1) := by decide +kernel
theorem dX1_shadowRows_1 : decode cX1_shadowRows 1 = .ok (.iconst 0, 1) := by decide +kernel
theorem dX1_shadowRows_2 : decode cX1_shadowRows 2 = .ok (.putfield 33, 3) := by decide +kernel
theorem dX1_shadowRows_5 : decode cX1_shadowRows 5 = .ok (.aload_n 0, 1) := by decide +kernel
theorem dX1_shadowRows_6 : decode cX1_shadowRows 6 = .ok (.invokevirtual 97, 3) := by decide +kernel
theorem dX1_shadowRows_9 : decode cX1_shadowRows 9 = .ok (.ireturn, 1) := by decide +kernel
theorem dX1_isRefused_0 : decode cX1_isRefused 0 = .ok (.aload_n 0, 1) := by decide +kernel
theorem dX1_isRefused_1 : decode cX1_isRefused 1 = .ok (.iload_n 1, 1) := by decide +kernel
theorem dX1_isRefused_2 : decode cX1_isRefused 2 = .ok (.invokestatic 68, 3) := by decide +kernel
theorem dX1_isRefused_5 : decode cX1_isRefused 5 = .ok (.ifCond .eq 7, 3) := by decide +kernel
theorem dX1_isRefused_8 : decode cX1_isRefused 8 = .ok (.iconst 0, 1) := by decide +kernel
theorem dX1_isRefused_9 : decode cX1_isRefused 9 = .ok (.goto 4, 3) := by decide +kernel
theorem dX1_isRefused_12 : decode cX1_isRefused 12 = .ok (.iconst 1, 1) := by decide +kernel
theorem dX1_isRefused_13 : decode cX1_isRefused 13 = .ok (.invokevirtual 81, 3) := by decide +kernel
theorem dX1_isRefused_16 : decode cX1_isRefused 16 = .ok (.ifCond .eq 16, 3) := by decide +kernel
theorem dX1_isRefused_19 : decode cX1_isRefused 19 = .ok (.aload_n 0, 1) := by decide +kernel
theorem dX1_isRefused_20 : decode cX1_isRefused 20 = .ok (.getfield 20, 3) := by decide +kernel
theorem dX1_isRefused_23 : decode cX1_isRefused 23 = .ok (.iload_n 1, 1) := by decide +kernel
theorem dX1_isRefused_24 : decode cX1_isRefused 24 = .ok (.baload, 1) := by decide +kernel
theorem dX1_isRefused_25 : decode cX1_isRefused 25 = .ok (.ifCond .eq 7, 3) := by decide +kernel
theorem dX1_isRefused_28 : decode cX1_isRefused 28 = .ok (.iconst 1, 1) := by decide +kernel
theorem dX1_isRefused_29 : decode cX1_isRefused 29 = .ok (.goto 4, 3) := by decide +kernel
theorem dX1_isRefused_32 : decode cX1_isRefused 32 = .ok (.iconst 0, 1) := by decide +kernel
theorem dX1_isRefused_33 : decode cX1_isRefused 33 = .ok (.ireturn, 1) := by decide +kernel
theorem dX1_isEven_0 : decode cX1_isEven 0 = .ok (.aload_n 0, 1) := by decide +kernel
theorem dX1_isEven_1 : decode cX1_isEven 1 = .ok (.getfield 7, 3) := by decide +kernel
theorem dX1_isEven_4 : decode cX1_isEven 4 = .ok (.iload_n 1, 1) := by decide +kernel
theorem dX1_isEven_5 : decode cX1_isEven 5 = .ok (.iaload, 1) := by decide +kernel
theorem dX1_isEven_6 : decode cX1_isEven 6 = .ok (.iconst (-1), 1) := by decide +kernel
theorem dX1_isEven_7 : decode cX1_isEven 7 = .ok (.if_icmp .eq 20, 3) := by decide +kernel
theorem dX1_isEven_10 : decode cX1_isEven 10 = .ok (.aload_n 0, 1) := by decide +kernel
theorem dX1_isEven_11 : decode cX1_isEven 11 = .ok (.aload_n 0, 1) := by decide +kernel
theorem dX1_isEven_12 : decode cX1_isEven 12 = .ok (.getfield 7, 3) := by decide +kernel
theorem dX1_isEven_15 : decode cX1_isEven 15 = .ok (.iload_n 1, 1) := by decide +kernel
theorem dX1_isEven_16 : decode cX1_isEven 16 = .ok (.iaload, 1) := by decide +kernel
theorem dX1_isEven_17 : decode cX1_isEven 17 = .ok (.invokevirtual 50, 3) := by decide +kernel
theorem dX1_isEven_20 : decode cX1_isEven 20 = .ok (.ifCond .eq 7, 3) := by decide +kernel
theorem dX1_isEven_23 : decode cX1_isEven 23 = .ok (.iconst 1, 1) := by decide +kernel
theorem dX1_isEven_24 : decode cX1_isEven 24 = .ok (.goto 4, 3) := by decide +kernel
theorem dX1_isEven_27 : decode cX1_isEven 27 = .ok (.iconst 0, 1) := by decide +kernel
theorem dX1_isEven_28 : decode cX1_isEven 28 = .ok (.istore_n 2, 1) := by decide +kernel
theorem dX1_isEven_29 : decode cX1_isEven 29 = .ok (.iload_n 2, 1) := by decide +kernel
theorem dX1_isEven_30 : decode cX1_isEven 30 = .ok (.aload_n 0, 1) := by decide +kernel
theorem dX1_isEven_31 : decode cX1_isEven 31 = .ok (.getfield 16, 3) := by decide +kernel
theorem dX1_isEven_34 : decode cX1_isEven 34 = .ok (.iload_n 1, 1) := by decide +kernel
theorem dX1_isEven_35 : decode cX1_isEven 35 = .ok (.baload, 1) := by decide +kernel
theorem dX1_isEven_36 : decode cX1_isEven 36 = .ok (.if_icmp .ne 7, 3) := by decide +kernel
theorem dX1_isEven_39 : decode cX1_isEven 39 = .ok (.iconst 1, 1) := by decide +kernel
theorem dX1_isEven_40 : decode cX1_isEven 40 = .ok (.goto 4, 3) := by decide +kernel
theorem dX1_isEven_43 : decode cX1_isEven 43 = .ok (.iconst 0, 1) := by decide +kernel
theorem dX1_isEven_44 : decode cX1_isEven 44 = .ok (.istore_n 3, 1) := by decide +kernel
theorem dX1_isEven_45 : decode cX1_isEven 45 = .ok (.iconst 0, 1) := by decide +kernel
theorem dX1_isEven_46 : decode cX1_isEven 46 = .ok (.istore 4, 2) := by decide +kernel
theorem dX1_isEven_48 : decode cX1_isEven 48 = .ok (.iload 4, 2) := by decide +kernel
theorem dX1_isEven_50 : decode cX1_isEven 50 = .ok (.iconst 3, 1) := by decide +kernel
theorem dX1_isEven_51 : decode cX1_isEven 51 = .ok (.if_icmp .ge 49, 3) := by decide +kernel
theorem dX1_isEven_54 : decode cX1_isEven 54 = .ok (.iload_n 2, 1) := by decide +kernel
theorem dX1_isEven_55 : decode cX1_isEven 55 = .ok (.ifCond .eq 45, 3) := by decide +kernel
theorem dX1_isEven_58 : decode cX1_isEven 58 = .ok (.iload_n 3, 1) := by decide +kernel
theorem dX1_isEven_59 : decode cX1_isEven 59 = .ok (.ifCond .eq 33, 3) := by decide +kernel
theorem dX1_isEven_62 : decode cX1_isEven 62 = .ok (.aload_n 0, 1) := by decide +kernel
theorem dX1_isEven_63 : decode cX1_isEven 63 = .ok (.getfield 13, 3) := by decide +kernel
theorem dX1_isEven_66 : decode cX1_isEven 66 = .ok (.iconst 3, 1) := by decide +kernel
theorem dX1_isEven_67 : decode cX1_isEven 67 = .ok (.iload_n 1, 1) := by decide +kernel
theorem dX1_isEven_68 : decode cX1_isEven 68 = .ok (.imul, 1) := by decide +kernel
theorem dX1_isEven_69 : decode cX1_isEven 69 = .ok (.iload 4, 2) := by decide +kernel
theorem dX1_isEven_71 : decode cX1_isEven 71 = .ok (.iadd, 1) := by decide +kernel
theorem dX1_isEven_72 : decode cX1_isEven 72 = .ok (.iaload, 1) := by decide +kernel
theorem dX1_isEven_73 : decode cX1_isEven 73 = .ok (.aload_n 0, 1) := by decide +kernel
theorem dX1_isEven_74 : decode cX1_isEven 74 = .ok (.aload_n 0, 1) := by decide +kernel
theorem dX1_isEven_75 : decode cX1_isEven 75 = .ok (.getfield 7, 3) := by decide +kernel
theorem dX1_isEven_78 : decode cX1_isEven 78 = .ok (.iload_n 1, 1) := by decide +kernel
theorem dX1_isEven_79 : decode cX1_isEven 79 = .ok (.iaload, 1) := by decide +kernel
theorem dX1_isEven_80 : decode cX1_isEven 80 = .ok (.iload 4, 2) := by decide +kernel
theorem dX1_isEven_82 : decode cX1_isEven 82 = .ok (.invokevirtual 54, 3) := by decide +kernel
theorem dX1_isEven_85 : decode cX1_isEven 85 = .ok (.if_icmp .ne 7, 3) := by decide +kernel
theorem dX1_isEven_88 : decode cX1_isEven 88 = .ok (.iconst 1, 1) := by decide +kernel
theorem dX1_isEven_89 : decode cX1_isEven 89 = .ok (.goto 4, 3) := by decide +kernel
theorem dX1_isEven_92 : decode cX1_isEven 92 = .ok (.iconst 0, 1) := by decide +kernel
theorem dX1_isEven_93 : decode cX1_isEven 93 = .ok (.istore_n 3, 1) := by decide +kernel
theorem dX1_isEven_94 : decode cX1_isEven 94 = .ok (.iinc 4 1, 3) := by decide +kernel
theorem dX1_isEven_97 : decode cX1_isEven 97 = .ok (.goto (-49), 3) := by decide +kernel
theorem dX1_isEven_100 : decode cX1_isEven 100 = .ok (.iload_n 3, 1) := by decide +kernel
theorem dX1_isEven_101 : decode cX1_isEven 101 = .ok (.ireturn, 1) := by decide +kernel
theorem dX1_behind_0 : decode cX1_behind 0 = .ok (.aload_n 0, 1) := by decide +kernel
theorem dX1_behind_1 : decode cX1_behind 1 = .ok (.iconst 0, 1) := by decide +kernel
theorem dX1_behind_2 : decode cX1_behind 2 = .ok (.putfield 33, 3) := by decide +kernel
theorem dX1_behind_5 : decode cX1_behind 5 = .ok (.iconst 0, 1) := by decide +kernel
theorem dX1_behind_6 : decode cX1_behind 6 = .ok (.istore_n 1, 1) := by decide +kernel
theorem dX1_behind_7 : decode cX1_behind 7 = .ok (.iconst 0, 1) := by decide +kernel
theorem dX1_behind_8 : decode cX1_behind 8 = .ok (.istore_n 2, 1) := by decide +kernel
theorem dX1_behind_9 : decode cX1_behind 9 = .ok (.iload_n 2, 1) := by decide +kernel
theorem dX1_behind_10 : decode cX1_behind 10 = .ok (.bipush 40, 2) := by decide +kernel
theorem dX1_behind_12 : decode cX1_behind 12 = .ok (.if_icmp .ge 32, 3) := by decide +kernel
theorem dX1_behind_15 : decode cX1_behind 15 = .ok (.aload_n 0, 1) := by decide +kernel
theorem dX1_behind_16 : decode cX1_behind 16 = .ok (.getfield 58, 3) := by decide +kernel
theorem dX1_behind_19 : decode cX1_behind 19 = .ok (.ifCond .eq 25, 3) := by decide +kernel
theorem dX1_behind_22 : decode cX1_behind 22 = .ok (.iload_n 1, 1) := by decide +kernel
theorem dX1_behind_23 : decode cX1_behind 23 = .ok (.aload_n 0, 1) := by decide +kernel
theorem dX1_behind_24 : decode cX1_behind 24 = .ok (.iload_n 2, 1) := by decide +kernel
theorem dX1_behind_25 : decode cX1_behind 25 = .ok (.invokevirtual 104, 3) := by decide +kernel
theorem dX1_behind_28 : decode cX1_behind 28 = .ok (.ifCond .eq 7, 3) := by decide +kernel
theorem dX1_behind_31 : decode cX1_behind 31 = .ok (.iconst 0, 1) := by decide +kernel
theorem dX1_behind_32 : decode cX1_behind 32 = .ok (.goto 4, 3) := by decide +kernel
theorem dX1_behind_35 : decode cX1_behind 35 = .ok (.iconst 1, 1) := by decide +kernel
theorem dX1_behind_36 : decode cX1_behind 36 = .ok (.iadd, 1) := by decide +kernel
theorem dX1_behind_37 : decode cX1_behind 37 = .ok (.istore_n 1, 1) := by decide +kernel
theorem dX1_behind_38 : decode cX1_behind 38 = .ok (.iinc 2 1, 3) := by decide +kernel
theorem dX1_behind_41 : decode cX1_behind 41 = .ok (.goto (-32), 3) := by decide +kernel
theorem dX1_behind_44 : decode cX1_behind 44 = .ok (.iload_n 1, 1) := by decide +kernel
theorem dX1_behind_45 : decode cX1_behind 45 = .ok (.ireturn, 1) := by decide +kernel
theorem dX1_sum_0 : decode cX1_sum 0 = .ok (.iconst 0, 1) := by decide +kernel
theorem dX1_sum_1 : decode cX1_sum 1 = .ok (.istore_n 2, 1) := by decide +kernel
theorem dX1_sum_2 : decode cX1_sum 2 = .ok (.iconst 0, 1) := by decide +kernel
theorem dX1_sum_3 : decode cX1_sum 3 = .ok (.istore_n 3, 1) := by decide +kernel
theorem dX1_sum_4 : decode cX1_sum 4 = .ok (.iload_n 3, 1) := by decide +kernel
theorem dX1_sum_5 : decode cX1_sum 5 = .ok (.bipush 40, 2) := by decide +kernel
theorem dX1_sum_7 : decode cX1_sum 7 = .ok (.if_icmp .ge 42, 3) := by decide +kernel
theorem dX1_sum_10 : decode cX1_sum 10 = .ok (.iload_n 1, 1) := by decide +kernel
theorem dX1_sum_11 : decode cX1_sum 11 = .ok (.invokestatic 101, 3) := by decide +kernel
theorem dX1_sum_14 : decode cX1_sum 14 = .ok (.ifCond .eq 35, 3) := by decide +kernel
theorem dX1_sum_17 : decode cX1_sum 17 = .ok (.iload_n 2, 1) := by decide +kernel
theorem dX1_sum_18 : decode cX1_sum 18 = .ok (.aload_n 0, 1) := by decide +kernel
theorem dX1_sum_19 : decode cX1_sum 19 = .ok (.getfield 16, 3) := by decide +kernel
theorem dX1_sum_22 : decode cX1_sum 22 = .ok (.iload_n 3, 1) := by decide +kernel
theorem dX1_sum_23 : decode cX1_sum 23 = .ok (.baload, 1) := by decide +kernel
theorem dX1_sum_24 : decode cX1_sum 24 = .ok (.ifCond .eq 16, 3) := by decide +kernel
theorem dX1_sum_27 : decode cX1_sum 27 = .ok (.aload_n 0, 1) := by decide +kernel
theorem dX1_sum_28 : decode cX1_sum 28 = .ok (.getfield 13, 3) := by decide +kernel
theorem dX1_sum_31 : decode cX1_sum 31 = .ok (.iconst 3, 1) := by decide +kernel
theorem dX1_sum_32 : decode cX1_sum 32 = .ok (.iload_n 3, 1) := by decide +kernel
theorem dX1_sum_33 : decode cX1_sum 33 = .ok (.imul, 1) := by decide +kernel
theorem dX1_sum_34 : decode cX1_sum 34 = .ok (.iload_n 1, 1) := by decide +kernel
theorem dX1_sum_35 : decode cX1_sum 35 = .ok (.iadd, 1) := by decide +kernel
theorem dX1_sum_36 : decode cX1_sum 36 = .ok (.iaload, 1) := by decide +kernel
theorem dX1_sum_37 : decode cX1_sum 37 = .ok (.goto 4, 3) := by decide +kernel
theorem dX1_sum_40 : decode cX1_sum 40 = .ok (.iconst 0, 1) := by decide +kernel
theorem dX1_sum_41 : decode cX1_sum 41 = .ok (.iadd, 1) := by decide +kernel
theorem dX1_sum_42 : decode cX1_sum 42 = .ok (.istore_n 2, 1) := by decide +kernel
theorem dX1_sum_43 : decode cX1_sum 43 = .ok (.iinc 3 1, 3) := by decide +kernel
theorem dX1_sum_46 : decode cX1_sum 46 = .ok (.goto (-42), 3) := by decide +kernel
theorem dX1_sum_49 : decode cX1_sum 49 = .ok (.aload_n 0, 1) := by decide +kernel
theorem dX1_sum_50 : decode cX1_sum 50 = .ok (.iload_n 1, 1) := by decide +kernel
theorem dX1_sum_51 : decode cX1_sum 51 = .ok (.invokestatic 101, 3) := by decide +kernel
theorem dX1_sum_54 : decode cX1_sum 54 = .ok (.ifCond .eq 7, 3) := by decide +kernel
theorem dX1_sum_57 : decode cX1_sum 57 = .ok (.iconst 0, 1) := by decide +kernel
theorem dX1_sum_58 : decode cX1_sum 58 = .ok (.goto 4, 3) := by decide +kernel
theorem dX1_sum_61 : decode cX1_sum 61 = .ok (.iconst 1, 1) := by decide +kernel
theorem dX1_sum_62 : decode cX1_sum 62 = .ok (.invokevirtual 81, 3) := by decide +kernel
theorem dX1_sum_65 : decode cX1_sum 65 = .ok (.ifCond .eq 7, 3) := by decide +kernel
theorem dX1_sum_68 : decode cX1_sum 68 = .ok (.iload_n 2, 1) := by decide +kernel
theorem dX1_sum_69 : decode cX1_sum 69 = .ok (.goto 4, 3) := by decide +kernel
theorem dX1_sum_72 : decode cX1_sum 72 = .ok (.iconst 0, 1) := by decide +kernel
theorem dX1_sum_73 : decode cX1_sum 73 = .ok (.ireturn, 1) := by decide +kernel
theorem dX1_sumAtOnce_0 : decode cX1_sumAtOnce 0 = .ok (.iconst 0, 1) := by decide +kernel
theorem dX1_sumAtOnce_1 : decode cX1_sumAtOnce 1 = .ok (.istore_n 2, 1) := by decide +kernel
theorem dX1_sumAtOnce_2 : decode cX1_sumAtOnce 2 = .ok (.iconst 0, 1) := by decide +kernel
theorem dX1_sumAtOnce_3 : decode cX1_sumAtOnce 3 = .ok (.istore_n 3, 1) := by decide +kernel
theorem dX1_sumAtOnce_4 : decode cX1_sumAtOnce 4 = .ok (.iload_n 3, 1) := by decide +kernel
theorem dX1_sumAtOnce_5 : decode cX1_sumAtOnce 5 = .ok (.bipush 40, 2) := by decide +kernel
theorem dX1_sumAtOnce_7 : decode cX1_sumAtOnce 7 = .ok (.if_icmp .ge 64, 3) := by decide +kernel
theorem dX1_sumAtOnce_10 : decode cX1_sumAtOnce 10 = .ok (.iload_n 1, 1) := by decide +kernel
theorem dX1_sumAtOnce_11 : decode cX1_sumAtOnce 11 = .ok (.invokestatic 101, 3) := by decide +kernel
theorem dX1_sumAtOnce_14 : decode cX1_sumAtOnce 14 = .ok (.ifCond .eq 57, 3) := by decide +kernel
theorem dX1_sumAtOnce_17 : decode cX1_sumAtOnce 17 = .ok (.aload_n 0, 1) := by decide +kernel
theorem dX1_sumAtOnce_18 : decode cX1_sumAtOnce 18 = .ok (.getfield 58, 3) := by decide +kernel
theorem dX1_sumAtOnce_21 : decode cX1_sumAtOnce 21 = .ok (.ifCond .eq 50, 3) := by decide +kernel
theorem dX1_sumAtOnce_24 : decode cX1_sumAtOnce 24 = .ok (.iload_n 2, 1) := by decide +kernel
theorem dX1_sumAtOnce_25 : decode cX1_sumAtOnce 25 = .ok (.aload_n 0, 1) := by decide +kernel
theorem dX1_sumAtOnce_26 : decode cX1_sumAtOnce 26 = .ok (.getfield 7, 3) := by decide +kernel
theorem dX1_sumAtOnce_29 : decode cX1_sumAtOnce 29 = .ok (.iload_n 3, 1) := by decide +kernel
theorem dX1_sumAtOnce_30 : decode cX1_sumAtOnce 30 = .ok (.iaload, 1) := by decide +kernel
theorem dX1_sumAtOnce_31 : decode cX1_sumAtOnce 31 = .ok (.iconst (-1), 1) := by decide +kernel
theorem dX1_sumAtOnce_32 : decode cX1_sumAtOnce 32 = .ok (.if_icmp .eq 30, 3) := by decide +kernel
theorem dX1_sumAtOnce_35 : decode cX1_sumAtOnce 35 = .ok (.aload_n 0, 1) := by decide +kernel
theorem dX1_sumAtOnce_36 : decode cX1_sumAtOnce 36 = .ok (.aload_n 0, 1) := by decide +kernel
theorem dX1_sumAtOnce_37 : decode cX1_sumAtOnce 37 = .ok (.getfield 7, 3) := by decide +kernel
theorem dX1_sumAtOnce_40 : decode cX1_sumAtOnce 40 = .ok (.iload_n 3, 1) := by decide +kernel
theorem dX1_sumAtOnce_41 : decode cX1_sumAtOnce 41 = .ok (.iaload, 1) := by decide +kernel
theorem dX1_sumAtOnce_42 : decode cX1_sumAtOnce 42 = .ok (.invokevirtual 50, 3) := by decide +kernel
theorem dX1_sumAtOnce_45 : decode cX1_sumAtOnce 45 = .ok (.ifCond .eq 17, 3) := by decide +kernel
theorem dX1_sumAtOnce_48 : decode cX1_sumAtOnce 48 = .ok (.aload_n 0, 1) := by decide +kernel
theorem dX1_sumAtOnce_49 : decode cX1_sumAtOnce 49 = .ok (.aload_n 0, 1) := by decide +kernel
theorem dX1_sumAtOnce_50 : decode cX1_sumAtOnce 50 = .ok (.getfield 7, 3) := by decide +kernel
theorem dX1_sumAtOnce_53 : decode cX1_sumAtOnce 53 = .ok (.iload_n 3, 1) := by decide +kernel
theorem dX1_sumAtOnce_54 : decode cX1_sumAtOnce 54 = .ok (.iaload, 1) := by decide +kernel
theorem dX1_sumAtOnce_55 : decode cX1_sumAtOnce 55 = .ok (.iload_n 1, 1) := by decide +kernel
theorem dX1_sumAtOnce_56 : decode cX1_sumAtOnce 56 = .ok (.invokevirtual 54, 3) := by decide +kernel
theorem dX1_sumAtOnce_59 : decode cX1_sumAtOnce 59 = .ok (.goto 4, 3) := by decide +kernel
theorem dX1_sumAtOnce_62 : decode cX1_sumAtOnce 62 = .ok (.iconst 0, 1) := by decide +kernel
theorem dX1_sumAtOnce_63 : decode cX1_sumAtOnce 63 = .ok (.iadd, 1) := by decide +kernel
theorem dX1_sumAtOnce_64 : decode cX1_sumAtOnce 64 = .ok (.istore_n 2, 1) := by decide +kernel
theorem dX1_sumAtOnce_65 : decode cX1_sumAtOnce 65 = .ok (.iinc 3 1, 3) := by decide +kernel
theorem dX1_sumAtOnce_68 : decode cX1_sumAtOnce 68 = .ok (.goto (-64), 3) := by decide +kernel
theorem dX1_sumAtOnce_71 : decode cX1_sumAtOnce 71 = .ok (.aload_n 0, 1) := by decide +kernel
theorem dX1_sumAtOnce_72 : decode cX1_sumAtOnce 72 = .ok (.iload_n 1, 1) := by decide +kernel
theorem dX1_sumAtOnce_73 : decode cX1_sumAtOnce 73 = .ok (.invokestatic 101, 3) := by decide +kernel
theorem dX1_sumAtOnce_76 : decode cX1_sumAtOnce 76 = .ok (.ifCond .eq 7, 3) := by decide +kernel
theorem dX1_sumAtOnce_79 : decode cX1_sumAtOnce 79 = .ok (.iconst 0, 1) := by decide +kernel
theorem dX1_sumAtOnce_80 : decode cX1_sumAtOnce 80 = .ok (.goto 4, 3) := by decide +kernel
theorem dX1_sumAtOnce_83 : decode cX1_sumAtOnce 83 = .ok (.iconst 1, 1) := by decide +kernel
theorem dX1_sumAtOnce_84 : decode cX1_sumAtOnce 84 = .ok (.invokevirtual 81, 3) := by decide +kernel
theorem dX1_sumAtOnce_87 : decode cX1_sumAtOnce 87 = .ok (.ifCond .eq 7, 3) := by decide +kernel
theorem dX1_sumAtOnce_90 : decode cX1_sumAtOnce 90 = .ok (.iload_n 2, 1) := by decide +kernel
theorem dX1_sumAtOnce_91 : decode cX1_sumAtOnce 91 = .ok (.goto 4, 3) := by decide +kernel
theorem dX1_sumAtOnce_94 : decode cX1_sumAtOnce 94 = .ok (.iconst 0, 1) := by decide +kernel
theorem dX1_sumAtOnce_95 : decode cX1_sumAtOnce 95 = .ok (.ireturn, 1) := by decide +kernel
end
section
theorem dJ9_max_7cf53_0 : decode cJ9_max_7cf53 0 = .ok (.iload_n 0, 1) := by decide +kernel
theorem dJ9_max_7cf53_1 : decode cJ9_max_7cf53 1 = .ok (.iload_n 1, 1) := by decide +kernel
theorem dJ9_max_7cf53_2 : decode cJ9_max_7cf53 2 = .ok (.if_icmp .lt 7, 3) := by decide +kernel
theorem dJ9_max_7cf53_5 : decode cJ9_max_7cf53 5 = .ok (.iload_n 0, 1) := by decide +kernel
theorem dJ9_max_7cf53_6 : decode cJ9_max_7cf53 6 = .ok (.goto 4, 3) := by decide +kernel
theorem dJ9_max_7cf53_9 : decode cJ9_max_7cf53 9 = .ok (.iload_n 1, 1) := by decide +kernel
theorem dJ9_max_7cf53_10 : decode cJ9_max_7cf53 10 = .ok (.ireturn, 1) := by decide +kernel
theorem dJ9_min_7cf53_0 : decode cJ9_min_7cf53 0 = .ok (.iload_n 0, 1) := by decide +kernel
theorem dJ9_min_7cf53_1 : decode cJ9_min_7cf53 1 = .ok (.iload_n 1, 1) := by decide +kernel
theorem dJ9_min_7cf53_2 : decode cJ9_min_7cf53 2 = .ok (.if_icmp .gt 7, 3) := by decide +kernel
theorem dJ9_min_7cf53_5 : decode cJ9_min_7cf53 5 = .ok (.iload_n 0, 1) := by decide +kernel
theorem dJ9_min_7cf53_6 : decode cJ9_min_7cf53 6 = .ok (.goto 4, 3) := by decide +kernel
theorem dJ9_min_7cf53_9 : decode cJ9_min_7cf53 9 = .ok (.iload_n 1, 1) := by decide +kernel
theorem dJ9_min_7cf53_10 : decode cJ9_min_7cf53 10 = .ok (.ireturn, 1) := by decide +kernel
theorem dJ7_fill_53178_0 : decode cJ7_fill_53178 0 = .ok (.iconst 0, 1) := by decide +kernel
theorem dJ7_fill_53178_1 : decode cJ7_fill_53178 1 = .ok (.istore_n 2, 1) := by decide +kernel
theorem dJ7_fill_53178_2 : decode cJ7_fill_53178 2 = .ok (.aload_n 0, 1) := by decide +kernel
theorem dJ7_fill_53178_3 : decode cJ7_fill_53178 3 = .ok (.arraylength, 1) := by decide +kernel
theorem dJ7_fill_53178_4 : decode cJ7_fill_53178 4 = .ok (.istore_n 3, 1) := by decide +kernel
theorem dJ7_fill_53178_5 : decode cJ7_fill_53178 5 = .ok (.iload_n 2, 1) := by decide +kernel
theorem dJ7_fill_53178_6 : decode cJ7_fill_53178 6 = .ok (.iload_n 3, 1) := by decide +kernel
theorem dJ7_fill_53178_7 : decode cJ7_fill_53178 7 = .ok (.if_icmp .ge 13, 3) := by decide +kernel
theorem dJ7_fill_53178_10 : decode cJ7_fill_53178 10 = .ok (.aload_n 0, 1) := by decide +kernel
theorem dJ7_fill_53178_11 : decode cJ7_fill_53178 11 = .ok (.iload_n 2, 1) := by decide +kernel
theorem dJ7_fill_53178_12 : decode cJ7_fill_53178 12 = .ok (.iload_n 1, 1) := by decide +kernel
theorem dJ7_fill_53178_13 : decode cJ7_fill_53178 13 = .ok (.iastore, 1) := by decide +kernel
theorem dJ7_fill_53178_14 : decode cJ7_fill_53178 14 = .ok (.iinc 2 1, 3) := by decide +kernel
theorem dJ7_fill_53178_17 : decode cJ7_fill_53178 17 = .ok (.goto (-12), 3) := by decide +kernel
theorem dJ7_fill_53178_20 : decode cJ7_fill_53178 20 = .ok (.return_, 1) := by decide +kernel
theorem dL_insert_0 : decode cL_insert 0 = .ok (.aload_n 0, 1) := by decide +kernel
theorem dL_insert_1 : decode cL_insert 1 = .ok (.iload_n 1, 1) := by decide +kernel
theorem dL_insert_2 : decode cL_insert 2 = .ok (.iload_n 2, 1) := by decide +kernel
theorem dL_insert_3 : decode cL_insert 3 = .ok (.iload_n 3, 1) := by decide +kernel
theorem dL_insert_4 : decode cL_insert 4 = .ok (.invokevirtual 7, 3) := by decide +kernel
theorem dL_insert_7 : decode cL_insert 7 = .ok (.goto 15, 3) := by decide +kernel
theorem dL_insert_10 : decode cL_insert 10 = .ok (.astore 4, 2) := by decide +kernel
theorem dL_insert_12 : decode cL_insert 12 = .ok (.iconst 1, 1) := by decide +kernel
theorem dL_insert_13 : decode cL_insert 13 = .ok (.ireturn, 1) := by decide +kernel
theorem dL_insert_14 : decode cL_insert 14 = .ok (.astore 4, 2) := by decide +kernel
theorem dL_insert_16 : decode cL_insert 16 = .ok (.iconst 2, 1) := by decide +kernel
theorem dL_insert_17 : decode cL_insert 17 = .ok (.ireturn, 1) := by decide +kernel
theorem dL_insert_18 : decode cL_insert 18 = .ok (.astore 4, 2) := by decide +kernel
theorem dL_insert_20 : decode cL_insert 20 = .ok (.iconst 3, 1) := by decide +kernel
theorem dL_insert_21 : decode cL_insert 21 = .ok (.ireturn, 1) := by decide +kernel
theorem dL_insert_22 : decode cL_insert 22 = .ok (.iconst 0, 1) := by decide +kernel
theorem dL_insert_23 : decode cL_insert 23 = .ok (.ireturn, 1) := by decide +kernel
theorem dL_update_0 : decode cL_update 0 = .ok (.aload_n 0, 1) := by decide +kernel
theorem dL_update_1 : decode cL_update 1 = .ok (.iload_n 1, 1) := by decide +kernel
theorem dL_update_2 : decode cL_update 2 = .ok (.iload_n 2, 1) := by decide +kernel
theorem dL_update_3 : decode cL_update 3 = .ok (.iload_n 3, 1) := by decide +kernel
theorem dL_update_4 : decode cL_update 4 = .ok (.invokevirtual 19, 3) := by decide +kernel
theorem dL_update_7 : decode cL_update 7 = .ok (.goto 15, 3) := by decide +kernel
theorem dL_update_10 : decode cL_update 10 = .ok (.astore 4, 2) := by decide +kernel
theorem dL_update_12 : decode cL_update 12 = .ok (.iconst 1, 1) := by decide +kernel
theorem dL_update_13 : decode cL_update 13 = .ok (.ireturn, 1) := by decide +kernel
theorem dL_update_14 : decode cL_update 14 = .ok (.astore 4, 2) := by decide +kernel
theorem dL_update_16 : decode cL_update 16 = .ok (.iconst 2, 1) := by decide +kernel
theorem dL_update_17 : decode cL_update 17 = .ok (.ireturn, 1) := by decide +kernel
theorem dL_update_18 : decode cL_update 18 = .ok (.astore 4, 2) := by decide +kernel
theorem dL_update_20 : decode cL_update 20 = .ok (.iconst 3, 1) := by decide +kernel
theorem dL_update_21 : decode cL_update 21 = .ok (.ireturn, 1) := by decide +kernel
theorem dL_update_22 : decode cL_update 22 = .ok (.iconst 0, 1) := by decide +kernel
theorem dL_update_23 : decode cL_update 23 = .ok (.ireturn, 1) := by decide +kernel
theorem dL_delete_0 : decode cL_delete 0 = .ok (.aload_n 2, 1) := by decide +kernel
theorem dL_delete_1 : decode cL_delete 1 = .ok (.iconst 0, 1) := by decide +kernel
theorem dL_delete_2 : decode cL_delete 2 = .ok (.aload_n 0, 1) := by decide +kernel
theorem dL_delete_3 : decode cL_delete 3 = .ok (.iload_n 1, 1) := by decide +kernel
theorem dL_delete_4 : decode cL_delete 4 = .ok (.invokevirtual 24, 3) := by decide +kernel
theorem dL_delete_7 : decode cL_delete 7 = .ok (.i2l, 1) := by decide +kernel
theorem dL_delete_8 : decode cL_delete 8 = .ok (.lastore, 1) := by decide +kernel
theorem dL_delete_9 : decode cL_delete 9 = .ok (.goto 9, 3) := by decide +kernel
theorem dL_delete_12 : decode cL_delete 12 = .ok (.astore_n 3, 1) := by decide +kernel
theorem dL_delete_13 : decode cL_delete 13 = .ok (.iconst 1, 1) := by decide +kernel
theorem dL_delete_14 : decode cL_delete 14 = .ok (.ireturn, 1) := by decide +kernel
theorem dL_delete_15 : decode cL_delete 15 = .ok (.astore_n 3, 1) := by decide +kernel
theorem dL_delete_16 : decode cL_delete 16 = .ok (.iconst 2, 1) := by decide +kernel
theorem dL_delete_17 : decode cL_delete 17 = .ok (.ireturn, 1) := by decide +kernel
theorem dL_delete_18 : decode cL_delete 18 = .ok (.iconst 0, 1) := by decide +kernel
theorem dL_delete_19 : decode cL_delete 19 = .ok (.ireturn, 1) := by decide +kernel
theorem dL_rekey_0 : decode cL_rekey 0 = .ok (.aload_n 0, 1) := by decide +kernel
theorem dL_rekey_1 : decode cL_rekey 1 = .ok (.iload_n 1, 1) := by decide +kernel
theorem dL_rekey_2 : decode cL_rekey 2 = .ok (.iload_n 2, 1) := by decide +kernel
theorem dL_rekey_3 : decode cL_rekey 3 = .ok (.invokevirtual 28, 3) := by decide +kernel
theorem dL_rekey_6 : decode cL_rekey 6 = .ok (.goto 15, 3) := by decide +kernel
theorem dL_rekey_9 : decode cL_rekey 9 = .ok (.astore_n 3, 1) := by decide +kernel
theorem dL_rekey_10 : decode cL_rekey 10 = .ok (.iconst 1, 1) := by decide +kernel
theorem dL_rekey_11 : decode cL_rekey 11 = .ok (.ireturn, 1) := by decide +kernel
theorem dL_rekey_12 : decode cL_rekey 12 = .ok (.astore_n 3, 1) := by decide +kernel
theorem dL_rekey_13 : decode cL_rekey 13 = .ok (.iconst 2, 1) := by decide +kernel
theorem dL_rekey_14 : decode cL_rekey 14 = .ok (.ireturn, 1) := by decide +kernel
theorem dL_rekey_15 : decode cL_rekey 15 = .ok (.astore_n 3, 1) := by decide +kernel
theorem dL_rekey_16 : decode cL_rekey 16 = .ok (.iconst 3, 1) := by decide +kernel
theorem dL_rekey_17 : decode cL_rekey 17 = .ok (.ireturn, 1) := by decide +kernel
theorem dL_rekey_18 : decode cL_rekey 18 = .ok (.astore_n 3, 1) := by decide +kernel
theorem dL_rekey_19 : decode cL_rekey 19 = .ok (.iconst 4, 1) := by decide +kernel
theorem dL_rekey_20 : decode cL_rekey 20 = .ok (.ireturn, 1) := by decide +kernel
theorem dL_rekey_21 : decode cL_rekey 21 = .ok (.iconst 0, 1) := by decide +kernel
theorem dL_rekey_22 : decode cL_rekey 22 = .ok (.ireturn, 1) := by decide +kernel
theorem dL_start_0 : decode cL_start 0 = .ok (.aload_n 0, 1) := by decide +kernel
theorem dL_start_1 : decode cL_start 1 = .ok (.iload_n 1, 1) := by decide +kernel
theorem dL_start_2 : decode cL_start 2 = .ok (.iload_n 2, 1) := by decide +kernel
theorem dL_start_3 : decode cL_start 3 = .ok (.invokevirtual 32, 3) := by decide +kernel
theorem dL_start_6 : decode cL_start 6 = .ok (.goto 9, 3) := by decide +kernel
theorem dL_start_9 : decode cL_start 9 = .ok (.astore_n 3, 1) := by decide +kernel
theorem dL_start_10 : decode cL_start 10 = .ok (.iconst 1, 1) := by decide +kernel
theorem dL_start_11 : decode cL_start 11 = .ok (.ireturn, 1) := by decide +kernel
theorem dL_start_12 : decode cL_start 12 = .ok (.astore_n 3, 1) := by decide +kernel
theorem dL_start_13 : decode cL_start 13 = .ok (.iconst 2, 1) := by decide +kernel
theorem dL_start_14 : decode cL_start 14 = .ok (.ireturn, 1) := by decide +kernel
theorem dL_start_15 : decode cL_start 15 = .ok (.iconst 0, 1) := by decide +kernel
theorem dL_start_16 : decode cL_start 16 = .ok (.ireturn, 1) := by decide +kernel
theorem dL_setPace_0 : decode cL_setPace 0 = .ok (.aload_n 0, 1) := by decide +kernel
theorem dL_setPace_1 : decode cL_setPace 1 = .ok (.iload_n 1, 1) := by decide +kernel
theorem dL_setPace_2 : decode cL_setPace 2 = .ok (.iload_n 2, 1) := by decide +kernel
theorem dL_setPace_3 : decode cL_setPace 3 = .ok (.invokevirtual 35, 3) := by decide +kernel
theorem dL_setPace_6 : decode cL_setPace 6 = .ok (.goto 6, 3) := by decide +kernel
theorem dL_setPace_9 : decode cL_setPace 9 = .ok (.astore_n 3, 1) := by decide +kernel
theorem dL_setPace_10 : decode cL_setPace 10 = .ok (.iconst 1, 1) := by decide +kernel
theorem dL_setPace_11 : decode cL_setPace 11 = .ok (.ireturn, 1) := by decide +kernel
theorem dL_setPace_12 : decode cL_setPace 12 = .ok (.iconst 0, 1) := by decide +kernel
theorem dL_setPace_13 : decode cL_setPace 13 = .ok (.ireturn, 1) := by decide +kernel
theorem dL_tick_0 : decode cL_tick 0 = .ok (.aload_n 2, 1) := by decide +kernel
theorem dL_tick_1 : decode cL_tick 1 = .ok (.iconst 0, 1) := by decide +kernel
theorem dL_tick_2 : decode cL_tick 2 = .ok (.aload_n 0, 1) := by decide +kernel
theorem dL_tick_3 : decode cL_tick 3 = .ok (.iload_n 1, 1) := by decide +kernel
theorem dL_tick_4 : decode cL_tick 4 = .ok (.invokevirtual 38, 3) := by decide +kernel
theorem dL_tick_7 : decode cL_tick 7 = .ok (.i2l, 1) := by decide +kernel
theorem dL_tick_8 : decode cL_tick 8 = .ok (.lastore, 1) := by decide +kernel
theorem dL_tick_9 : decode cL_tick 9 = .ok (.goto 9, 3) := by decide +kernel
theorem dL_tick_12 : decode cL_tick 12 = .ok (.astore_n 3, 1) := by decide +kernel
theorem dL_tick_13 : decode cL_tick 13 = .ok (.iconst 1, 1) := by decide +kernel
theorem dL_tick_14 : decode cL_tick 14 = .ok (.ireturn, 1) := by decide +kernel
theorem dL_tick_15 : decode cL_tick 15 = .ok (.astore_n 3, 1) := by decide +kernel
theorem dL_tick_16 : decode cL_tick 16 = .ok (.iconst 2, 1) := by decide +kernel
theorem dL_tick_17 : decode cL_tick 17 = .ok (.ireturn, 1) := by decide +kernel
theorem dL_tick_18 : decode cL_tick 18 = .ok (.iconst 0, 1) := by decide +kernel
theorem dL_tick_19 : decode cL_tick 19 = .ok (.ireturn, 1) := by decide +kernel
theorem dL_cutOver_0 : decode cL_cutOver 0 = .ok (.aload_n 2, 1) := by decide +kernel
theorem dL_cutOver_1 : decode cL_cutOver 1 = .ok (.iconst 0, 1) := by decide +kernel
theorem dL_cutOver_2 : decode cL_cutOver 2 = .ok (.aload_n 0, 1) := by decide +kernel
theorem dL_cutOver_3 : decode cL_cutOver 3 = .ok (.iload_n 1, 1) := by decide +kernel
theorem dL_cutOver_4 : decode cL_cutOver 4 = .ok (.invokevirtual 41, 3) := by decide +kernel
theorem dL_cutOver_7 : decode cL_cutOver 7 = .ok (.i2l, 1) := by decide +kernel
theorem dL_cutOver_8 : decode cL_cutOver 8 = .ok (.lastore, 1) := by decide +kernel
theorem dL_cutOver_9 : decode cL_cutOver 9 = .ok (.goto 9, 3) := by decide +kernel
theorem dL_cutOver_12 : decode cL_cutOver 12 = .ok (.astore_n 3, 1) := by decide +kernel
theorem dL_cutOver_13 : decode cL_cutOver 13 = .ok (.iconst 1, 1) := by decide +kernel
theorem dL_cutOver_14 : decode cL_cutOver 14 = .ok (.ireturn, 1) := by decide +kernel
theorem dL_cutOver_15 : decode cL_cutOver 15 = .ok (.astore_n 3, 1) := by decide +kernel
theorem dL_cutOver_16 : decode cL_cutOver 16 = .ok (.iconst 2, 1) := by decide +kernel
theorem dL_cutOver_17 : decode cL_cutOver 17 = .ok (.ireturn, 1) := by decide +kernel
theorem dL_cutOver_18 : decode cL_cutOver 18 = .ok (.iconst 0, 1) := by decide +kernel
theorem dL_cutOver_19 : decode cL_cutOver 19 = .ok (.ireturn, 1) := by decide +kernel
theorem dL_undo_0 : decode cL_undo 0 = .ok (.aload_n 0, 1) := by decide +kernel
theorem dL_undo_1 : decode cL_undo 1 = .ok (.invokevirtual 44, 3) := by decide +kernel
theorem dL_undo_4 : decode cL_undo 4 = .ok (.goto 6, 3) := by decide +kernel
theorem dL_undo_7 : decode cL_undo 7 = .ok (.astore_n 1, 1) := by decide +kernel
theorem dL_undo_8 : decode cL_undo 8 = .ok (.iconst 1, 1) := by decide +kernel
theorem dL_undo_9 : decode cL_undo 9 = .ok (.ireturn, 1) := by decide +kernel
theorem dL_undo_10 : decode cL_undo 10 = .ok (.iconst 0, 1) := by decide +kernel
theorem dL_undo_11 : decode cL_undo 11 = .ok (.ireturn, 1) := by decide +kernel
theorem dL_finish_0 : decode cL_finish 0 = .ok (.aload_n 1, 1) := by decide +kernel
theorem dL_finish_1 : decode cL_finish 1 = .ok (.iconst 0, 1) := by decide +kernel
theorem dL_finish_2 : decode cL_finish 2 = .ok (.aload_n 0, 1) := by decide +kernel
theorem dL_finish_3 : decode cL_finish 3 = .ok (.invokevirtual 47, 3) := by decide +kernel
theorem dL_finish_6 : decode cL_finish 6 = .ok (.i2l, 1) := by decide +kernel
theorem dL_finish_7 : decode cL_finish 7 = .ok (.lastore, 1) := by decide +kernel
theorem dL_finish_8 : decode cL_finish 8 = .ok (.goto 6, 3) := by decide +kernel
theorem dL_finish_11 : decode cL_finish 11 = .ok (.astore_n 2, 1) := by decide +kernel
theorem dL_finish_12 : decode cL_finish 12 = .ok (.iconst 1, 1) := by decide +kernel
theorem dL_finish_13 : decode cL_finish 13 = .ok (.ireturn, 1) := by decide +kernel
theorem dL_finish_14 : decode cL_finish 14 = .ok (.iconst 0, 1) := by decide +kernel
theorem dL_finish_15 : decode cL_finish 15 = .ok (.ireturn, 1) := by decide +kernel
theorem dL_giveUp_0 : decode cL_giveUp 0 = .ok (.aload_n 1, 1) := by decide +kernel
theorem dL_giveUp_1 : decode cL_giveUp 1 = .ok (.iconst 0, 1) := by decide +kernel
theorem dL_giveUp_2 : decode cL_giveUp 2 = .ok (.aload_n 0, 1) := by decide +kernel
theorem dL_giveUp_3 : decode cL_giveUp 3 = .ok (.invokevirtual 51, 3) := by decide +kernel
theorem dL_giveUp_6 : decode cL_giveUp 6 = .ok (.i2l, 1) := by decide +kernel
theorem dL_giveUp_7 : decode cL_giveUp 7 = .ok (.lastore, 1) := by decide +kernel
theorem dL_giveUp_8 : decode cL_giveUp 8 = .ok (.goto 6, 3) := by decide +kernel
theorem dL_giveUp_11 : decode cL_giveUp 11 = .ok (.astore_n 2, 1) := by decide +kernel
theorem dL_giveUp_12 : decode cL_giveUp 12 = .ok (.iconst 1, 1) := by decide +kernel
theorem dL_giveUp_13 : decode cL_giveUp 13 = .ok (.ireturn, 1) := by decide +kernel
theorem dL_giveUp_14 : decode cL_giveUp 14 = .ok (.iconst 0, 1) := by decide +kernel
theorem dL_giveUp_15 : decode cL_giveUp 15 = .ok (.ireturn, 1) := by decide +kernel
theorem dL_row_0 : decode cL_row 0 = .ok (.aload_n 2, 1) := by decide +kernel
theorem dL_row_1 : decode cL_row 1 = .ok (.iconst 0, 1) := by decide +kernel
theorem dL_row_2 : decode cL_row 2 = .ok (.aload_n 0, 1) := by decide +kernel
theorem dL_row_3 : decode cL_row 3 = .ok (.iload_n 1, 1) := by decide +kernel
theorem dL_row_4 : decode cL_row 4 = .ok (.invokevirtual 54, 3) := by decide +kernel
theorem dL_row_7 : decode cL_row 7 = .ok (.i2l, 1) := by decide +kernel
theorem dL_row_8 : decode cL_row 8 = .ok (.lastore, 1) := by decide +kernel
theorem dL_row_9 : decode cL_row 9 = .ok (.goto 6, 3) := by decide +kernel
theorem dL_row_12 : decode cL_row 12 = .ok (.astore_n 3, 1) := by decide +kernel
theorem dL_row_13 : decode cL_row 13 = .ok (.iconst 1, 1) := by decide +kernel
theorem dL_row_14 : decode cL_row 14 = .ok (.ireturn, 1) := by decide +kernel
theorem dL_row_15 : decode cL_row 15 = .ok (.iconst 0, 1) := by decide +kernel
theorem dL_row_16 : decode cL_row 16 = .ok (.ireturn, 1) := by decide +kernel
theorem dL_shadow_0 : decode cL_shadow 0 = .ok (.aload_n 3, 1) := by decide +kernel
theorem dL_shadow_1 : decode cL_shadow 1 = .ok (.iconst 0, 1) := by decide +kernel
theorem dL_shadow_2 : decode cL_shadow 2 = .ok (.aload_n 0, 1) := by decide +kernel
theorem dL_shadow_3 : decode cL_shadow 3 = .ok (.iload_n 1, 1) := by decide +kernel
theorem dL_shadow_4 : decode cL_shadow 4 = .ok (.iload_n 2, 1) := by decide +kernel
theorem dL_shadow_5 : decode cL_shadow 5 = .ok (.invokevirtual 57, 3) := by decide +kernel
theorem dL_shadow_8 : decode cL_shadow 8 = .ok (.i2l, 1) := by decide +kernel
theorem dL_shadow_9 : decode cL_shadow 9 = .ok (.lastore, 1) := by decide +kernel
theorem dL_shadow_10 : decode cL_shadow 10 = .ok (.goto 7, 3) := by decide +kernel
theorem dL_shadow_13 : decode cL_shadow 13 = .ok (.astore 4, 2) := by decide +kernel
theorem dL_shadow_15 : decode cL_shadow 15 = .ok (.iconst 1, 1) := by decide +kernel
theorem dL_shadow_16 : decode cL_shadow 16 = .ok (.ireturn, 1) := by decide +kernel
theorem dL_shadow_17 : decode cL_shadow 17 = .ok (.iconst 0, 1) := by decide +kernel
theorem dL_shadow_18 : decode cL_shadow 18 = .ok (.ireturn, 1) := by decide +kernel
theorem dL_isRefused_0 : decode cL_isRefused 0 = .ok (.aload_n 2, 1) := by decide +kernel
theorem dL_isRefused_1 : decode cL_isRefused 1 = .ok (.iconst 0, 1) := by decide +kernel
theorem dL_isRefused_2 : decode cL_isRefused 2 = .ok (.aload_n 0, 1) := by decide +kernel
theorem dL_isRefused_3 : decode cL_isRefused 3 = .ok (.iload_n 1, 1) := by decide +kernel
theorem dL_isRefused_4 : decode cL_isRefused 4 = .ok (.invokevirtual 61, 3) := by decide +kernel
theorem dL_isRefused_7 : decode cL_isRefused 7 = .ok (.ifCond .eq 7, 3) := by decide +kernel
theorem dL_isRefused_10 : decode cL_isRefused 10 = .ok (.lconst 1, 1) := by decide +kernel
theorem dL_isRefused_11 : decode cL_isRefused 11 = .ok (.goto 4, 3) := by decide +kernel
theorem dL_isRefused_14 : decode cL_isRefused 14 = .ok (.lconst 0, 1) := by decide +kernel
theorem dL_isRefused_15 : decode cL_isRefused 15 = .ok (.lastore, 1) := by decide +kernel
theorem dL_isRefused_16 : decode cL_isRefused 16 = .ok (.goto 6, 3) := by decide +kernel
theorem dL_isRefused_19 : decode cL_isRefused 19 = .ok (.astore_n 3, 1) := by decide +kernel
theorem dL_isRefused_20 : decode cL_isRefused 20 = .ok (.iconst 1, 1) := by decide +kernel
theorem dL_isRefused_21 : decode cL_isRefused 21 = .ok (.ireturn, 1) := by decide +kernel
theorem dL_isRefused_22 : decode cL_isRefused 22 = .ok (.iconst 0, 1) := by decide +kernel
theorem dL_isRefused_23 : decode cL_isRefused 23 = .ok (.ireturn, 1) := by decide +kernel
theorem dL_sum_0 : decode cL_sum 0 = .ok (.aload_n 2, 1) := by decide +kernel
theorem dL_sum_1 : decode cL_sum 1 = .ok (.iconst 0, 1) := by decide +kernel
theorem dL_sum_2 : decode cL_sum 2 = .ok (.aload_n 0, 1) := by decide +kernel
theorem dL_sum_3 : decode cL_sum 3 = .ok (.iload_n 1, 1) := by decide +kernel
theorem dL_sum_4 : decode cL_sum 4 = .ok (.invokevirtual 65, 3) := by decide +kernel
theorem dL_sum_7 : decode cL_sum 7 = .ok (.i2l, 1) := by decide +kernel
theorem dL_sum_8 : decode cL_sum 8 = .ok (.lastore, 1) := by decide +kernel
theorem dL_sum_9 : decode cL_sum 9 = .ok (.goto 6, 3) := by decide +kernel
theorem dL_sum_12 : decode cL_sum 12 = .ok (.astore_n 3, 1) := by decide +kernel
theorem dL_sum_13 : decode cL_sum 13 = .ok (.iconst 1, 1) := by decide +kernel
theorem dL_sum_14 : decode cL_sum 14 = .ok (.ireturn, 1) := by decide +kernel
theorem dL_sum_15 : decode cL_sum 15 = .ok (.iconst 0, 1) := by decide +kernel
theorem dL_sum_16 : decode cL_sum 16 = .ok (.ireturn, 1) := by decide +kernel
theorem dL_sumAtOnce_0 : decode cL_sumAtOnce 0 = .ok (.aload_n 2, 1) := by decide +kernel
theorem dL_sumAtOnce_1 : decode cL_sumAtOnce 1 = .ok (.iconst 0, 1) := by decide +kernel
theorem dL_sumAtOnce_2 : decode cL_sumAtOnce 2 = .ok (.aload_n 0, 1) := by decide +kernel
theorem dL_sumAtOnce_3 : decode cL_sumAtOnce 3 = .ok (.iload_n 1, 1) := by decide +kernel
theorem dL_sumAtOnce_4 : decode cL_sumAtOnce 4 = .ok (.invokevirtual 68, 3) := by decide +kernel
theorem dL_sumAtOnce_7 : decode cL_sumAtOnce 7 = .ok (.i2l, 1) := by decide +kernel
theorem dL_sumAtOnce_8 : decode cL_sumAtOnce 8 = .ok (.lastore, 1) := by decide +kernel
theorem dL_sumAtOnce_9 : decode cL_sumAtOnce 9 = .ok (.goto 6, 3) := by decide +kernel
theorem dL_sumAtOnce_12 : decode cL_sumAtOnce 12 = .ok (.astore_n 3, 1) := by decide +kernel
theorem dL_sumAtOnce_13 : decode cL_sumAtOnce 13 = .ok (.iconst 1, 1) := by decide +kernel
theorem dL_sumAtOnce_14 : decode cL_sumAtOnce 14 = .ok (.ireturn, 1) := by decide +kernel
theorem dL_sumAtOnce_15 : decode cL_sumAtOnce 15 = .ok (.iconst 0, 1) := by decide +kernel
theorem dL_sumAtOnce_16 : decode cL_sumAtOnce 16 = .ok (.ireturn, 1) := by decide +kernel
end
section
theorem dL_law_0 : decode cL_law 0 = .ok (.new 8, 3) := by decide +kernel
theorem dL_law_3 : decode cL_law 3 = .ok (.dup, 1) := by decide +kernel
theorem dL_law_4 : decode cL_law 4 = .ok (.invokespecial 71, 3) := by decide +kernel
theorem dL_law_7 : decode cL_law 7 = .ok (.astore_n 1, 1) := by decide +kernel
theorem dL_law_8 : decode cL_law 8 = .ok (.new 72, 3) := by decide +kernel
theorem dL_law_11 : decode cL_law 11 = .ok (.dup, 1) := by decide +kernel
theorem dL_law_12 : decode cL_law 12 = .ok (.invokespecial 74, 3) := by decide +kernel
theorem dL_law_15 : decode cL_law 15 = .ok (.astore_n 2, 1) := by decide +kernel
theorem dL_law_16 : decode cL_law 16 = .ok (.iconst 1, 1) := by decide +kernel
theorem dL_law_17 : decode cL_law 17 = .ok (.newarray .long, 2) := by decide +kernel
theorem dL_law_19 : decode cL_law 19 = .ok (.astore_n 3, 1) := by decide +kernel
theorem dL_law_20 : decode cL_law 20 = .ok (.iconst 0, 1) := by decide +kernel
theorem dL_law_21 : decode cL_law 21 = .ok (.istore 4, 2) := by decide +kernel
theorem dL_law_23 : decode cL_law 23 = .ok (.iload 4, 2) := by decide +kernel
theorem dL_law_25 : decode cL_law 25 = .ok (.aload_n 0, 1) := by decide +kernel
theorem dL_law_26 : decode cL_law 26 = .ok (.arraylength, 1) := by decide +kernel
theorem dL_law_27 : decode cL_law 27 = .ok (.iconst 4, 1) := by decide +kernel
theorem dL_law_28 : decode cL_law 28 = .ok (.isub, 1) := by decide +kernel
theorem dL_law_29 : decode cL_law 29 = .ok (.if_icmp .gt 1038, 3) := by decide +kernel
theorem dL_law_32 : decode cL_law 32 = .ok (.aload_n 0, 1) := by decide +kernel
theorem dL_law_33 : decode cL_law 33 = .ok (.iload 4, 2) := by decide +kernel
theorem dL_law_35 : decode cL_law 35 = .ok (.iaload, 1) := by decide +kernel
theorem dL_law_36 : decode cL_law 36 = .ok (.bipush 31, 2) := by decide +kernel
theorem dL_law_38 : decode cL_law 38 = .ok (.iand, 1) := by decide +kernel
theorem dL_law_39 : decode cL_law 39 = .ok (.tableswitch 1022 0 21 #[101, 161, 221, 277, 325, 373, 421, 477, 533, 557, 601, 645, 701, 714, 727, 740, 753, 821, 834, 897, 910, 966], 101) := by decide +kernel
theorem dL_law_140 : decode cL_law 140 = .ok (.aload_n 1, 1) := by decide +kernel
theorem dL_law_141 : decode cL_law 141 = .ok (.aload_n 0, 1) := by decide +kernel
theorem dL_law_142 : decode cL_law 142 = .ok (.iload 4, 2) := by decide +kernel
theorem dL_law_144 : decode cL_law 144 = .ok (.iconst 1, 1) := by decide +kernel
theorem dL_law_145 : decode cL_law 145 = .ok (.iadd, 1) := by decide +kernel
theorem dL_law_146 : decode cL_law 146 = .ok (.iaload, 1) := by decide +kernel
theorem dL_law_147 : decode cL_law 147 = .ok (.aload_n 0, 1) := by decide +kernel
theorem dL_law_148 : decode cL_law 148 = .ok (.iload 4, 2) := by decide +kernel
theorem dL_law_150 : decode cL_law 150 = .ok (.iconst 2, 1) := by decide +kernel
theorem dL_law_151 : decode cL_law 151 = .ok (.iadd, 1) := by decide +kernel
theorem dL_law_152 : decode cL_law 152 = .ok (.iaload, 1) := by decide +kernel
theorem dL_law_153 : decode cL_law 153 = .ok (.aload_n 0, 1) := by decide +kernel
theorem dL_law_154 : decode cL_law 154 = .ok (.iload 4, 2) := by decide +kernel
theorem dL_law_156 : decode cL_law 156 = .ok (.iconst 3, 1) := by decide +kernel
theorem dL_law_157 : decode cL_law 157 = .ok (.iadd, 1) := by decide +kernel
theorem dL_law_158 : decode cL_law 158 = .ok (.iaload, 1) := by decide +kernel
theorem dL_law_159 : decode cL_law 159 = .ok (.invokestatic 75, 3) := by decide +kernel
theorem dL_law_162 : decode cL_law 162 = .ok (.istore 5, 2) := by decide +kernel
theorem dL_law_164 : decode cL_law 164 = .ok (.aload_n 2, 1) := by decide +kernel
theorem dL_law_165 : decode cL_law 165 = .ok (.aload_n 0, 1) := by decide +kernel
theorem dL_law_166 : decode cL_law 166 = .ok (.iload 4, 2) := by decide +kernel
theorem dL_law_168 : decode cL_law 168 = .ok (.iconst 1, 1) := by decide +kernel
theorem dL_law_169 : decode cL_law 169 = .ok (.iadd, 1) := by decide +kernel
theorem dL_law_170 : decode cL_law 170 = .ok (.iaload, 1) := by decide +kernel
theorem dL_law_171 : decode cL_law 171 = .ok (.aload_n 0, 1) := by decide +kernel
theorem dL_law_172 : decode cL_law 172 = .ok (.iload 4, 2) := by decide +kernel
theorem dL_law_174 : decode cL_law 174 = .ok (.iconst 2, 1) := by decide +kernel
theorem dL_law_175 : decode cL_law 175 = .ok (.iadd, 1) := by decide +kernel
theorem dL_law_176 : decode cL_law 176 = .ok (.iaload, 1) := by decide +kernel
theorem dL_law_177 : decode cL_law 177 = .ok (.aload_n 0, 1) := by decide +kernel
theorem dL_law_178 : decode cL_law 178 = .ok (.iload 4, 2) := by decide +kernel
theorem dL_law_180 : decode cL_law 180 = .ok (.iconst 3, 1) := by decide +kernel
theorem dL_law_181 : decode cL_law 181 = .ok (.iadd, 1) := by decide +kernel
theorem dL_law_182 : decode cL_law 182 = .ok (.iaload, 1) := by decide +kernel
theorem dL_law_183 : decode cL_law 183 = .ok (.invokevirtual 80, 3) := by decide +kernel
theorem dL_law_186 : decode cL_law 186 = .ok (.aload_n 2, 1) := by decide +kernel
theorem dL_law_187 : decode cL_law 187 = .ok (.invokevirtual 81, 3) := by decide +kernel
theorem dL_law_190 : decode cL_law 190 = .ok (.iload 5, 2) := by decide +kernel
theorem dL_law_192 : decode cL_law 192 = .ok (.if_icmp .eq 5, 3) := by decide +kernel
theorem dL_law_195 : decode cL_law 195 = .ok (.iconst 0, 1) := by decide +kernel
theorem dL_law_196 : decode cL_law 196 = .ok (.ireturn, 1) := by decide +kernel
theorem dL_law_197 : decode cL_law 197 = .ok (.goto 864, 3) := by decide +kernel
theorem dL_law_200 : decode cL_law 200 = .ok (.aload_n 1, 1) := by decide +kernel
theorem dL_law_201 : decode cL_law 201 = .ok (.aload_n 0, 1) := by decide +kernel
theorem dL_law_202 : decode cL_law 202 = .ok (.iload 4, 2) := by decide +kernel
theorem dL_law_204 : decode cL_law 204 = .ok (.iconst 1, 1) := by decide +kernel
theorem dL_law_205 : decode cL_law 205 = .ok (.iadd, 1) := by decide +kernel
theorem dL_law_206 : decode cL_law 206 = .ok (.iaload, 1) := by decide +kernel
theorem dL_law_207 : decode cL_law 207 = .ok (.aload_n 0, 1) := by decide +kernel
theorem dL_law_208 : decode cL_law 208 = .ok (.iload 4, 2) := by decide +kernel
theorem dL_law_210 : decode cL_law 210 = .ok (.iconst 2, 1) := by decide +kernel
end
section
theorem dL_law_211 : decode cL_law 211 = .ok (.iadd, 1) := by decide +kernel
theorem dL_law_212 : decode cL_law 212 = .ok (.iaload, 1) := by decide +kernel
theorem dL_law_213 : decode cL_law 213 = .ok (.aload_n 0, 1) := by decide +kernel
theorem dL_law_214 : decode cL_law 214 = .ok (.iload 4, 2) := by decide +kernel
theorem dL_law_216 : decode cL_law 216 = .ok (.iconst 3, 1) := by decide +kernel
theorem dL_law_217 : decode cL_law 217 = .ok (.iadd, 1) := by decide +kernel
theorem dL_law_218 : decode cL_law 218 = .ok (.iaload, 1) := by decide +kernel
theorem dL_law_219 : decode cL_law 219 = .ok (.invokestatic 84, 3) := by decide +kernel
theorem dL_law_222 : decode cL_law 222 = .ok (.istore 5, 2) := by decide +kernel
theorem dL_law_224 : decode cL_law 224 = .ok (.aload_n 2, 1) := by decide +kernel
theorem dL_law_225 : decode cL_law 225 = .ok (.aload_n 0, 1) := by decide +kernel
theorem dL_law_226 : decode cL_law 226 = .ok (.iload 4, 2) := by decide +kernel
theorem dL_law_228 : decode cL_law 228 = .ok (.iconst 1, 1) := by decide +kernel
theorem dL_law_229 : decode cL_law 229 = .ok (.iadd, 1) := by decide +kernel
theorem dL_law_230 : decode cL_law 230 = .ok (.iaload, 1) := by decide +kernel
theorem dL_law_231 : decode cL_law 231 = .ok (.aload_n 0, 1) := by decide +kernel
theorem dL_law_232 : decode cL_law 232 = .ok (.iload 4, 2) := by decide +kernel
theorem dL_law_234 : decode cL_law 234 = .ok (.iconst 2, 1) := by decide +kernel
theorem dL_law_235 : decode cL_law 235 = .ok (.iadd, 1) := by decide +kernel
theorem dL_law_236 : decode cL_law 236 = .ok (.iaload, 1) := by decide +kernel
theorem dL_law_237 : decode cL_law 237 = .ok (.aload_n 0, 1) := by decide +kernel
theorem dL_law_238 : decode cL_law 238 = .ok (.iload 4, 2) := by decide +kernel
theorem dL_law_240 : decode cL_law 240 = .ok (.iconst 3, 1) := by decide +kernel
theorem dL_law_241 : decode cL_law 241 = .ok (.iadd, 1) := by decide +kernel
theorem dL_law_242 : decode cL_law 242 = .ok (.iaload, 1) := by decide +kernel
theorem dL_law_243 : decode cL_law 243 = .ok (.invokevirtual 86, 3) := by decide +kernel
theorem dL_law_246 : decode cL_law 246 = .ok (.aload_n 2, 1) := by decide +kernel
theorem dL_law_247 : decode cL_law 247 = .ok (.invokevirtual 81, 3) := by decide +kernel
theorem dL_law_250 : decode cL_law 250 = .ok (.iload 5, 2) := by decide +kernel
theorem dL_law_252 : decode cL_law 252 = .ok (.if_icmp .eq 5, 3) := by decide +kernel
theorem dL_law_255 : decode cL_law 255 = .ok (.iconst 0, 1) := by decide +kernel
theorem dL_law_256 : decode cL_law 256 = .ok (.ireturn, 1) := by decide +kernel
theorem dL_law_257 : decode cL_law 257 = .ok (.goto 804, 3) := by decide +kernel
theorem dL_law_260 : decode cL_law 260 = .ok (.aload_n 1, 1) := by decide +kernel
theorem dL_law_261 : decode cL_law 261 = .ok (.aload_n 0, 1) := by decide +kernel
theorem dL_law_262 : decode cL_law 262 = .ok (.iload 4, 2) := by decide +kernel
theorem dL_law_264 : decode cL_law 264 = .ok (.iconst 1, 1) := by decide +kernel
theorem dL_law_265 : decode cL_law 265 = .ok (.iadd, 1) := by decide +kernel
theorem dL_law_266 : decode cL_law 266 = .ok (.iaload, 1) := by decide +kernel
theorem dL_law_267 : decode cL_law 267 = .ok (.aload_n 3, 1) := by decide +kernel
theorem dL_law_268 : decode cL_law 268 = .ok (.invokestatic 87, 3) := by decide +kernel
theorem dL_law_271 : decode cL_law 271 = .ok (.istore 5, 2) := by decide +kernel
theorem dL_law_273 : decode cL_law 273 = .ok (.aload_n 2, 1) := by decide +kernel
theorem dL_law_274 : decode cL_law 274 = .ok (.aload_n 0, 1) := by decide +kernel
theorem dL_law_275 : decode cL_law 275 = .ok (.iload 4, 2) := by decide +kernel
theorem dL_law_277 : decode cL_law 277 = .ok (.iconst 1, 1) := by decide +kernel
theorem dL_law_278 : decode cL_law 278 = .ok (.iadd, 1) := by decide +kernel
theorem dL_law_279 : decode cL_law 279 = .ok (.iaload, 1) := by decide +kernel
theorem dL_law_280 : decode cL_law 280 = .ok (.invokevirtual 90, 3) := by decide +kernel
theorem dL_law_283 : decode cL_law 283 = .ok (.istore 6, 2) := by decide +kernel
theorem dL_law_285 : decode cL_law 285 = .ok (.aload_n 2, 1) := by decide +kernel
theorem dL_law_286 : decode cL_law 286 = .ok (.invokevirtual 81, 3) := by decide +kernel
theorem dL_law_289 : decode cL_law 289 = .ok (.iload 5, 2) := by decide +kernel
theorem dL_law_291 : decode cL_law 291 = .ok (.if_icmp .eq 5, 3) := by decide +kernel
theorem dL_law_294 : decode cL_law 294 = .ok (.iconst 0, 1) := by decide +kernel
theorem dL_law_295 : decode cL_law 295 = .ok (.ireturn, 1) := by decide +kernel
theorem dL_law_296 : decode cL_law 296 = .ok (.iload 5, 2) := by decide +kernel
theorem dL_law_298 : decode cL_law 298 = .ok (.ifCond .ne 15, 3) := by decide +kernel
theorem dL_law_301 : decode cL_law 301 = .ok (.aload_n 3, 1) := by decide +kernel
theorem dL_law_302 : decode cL_law 302 = .ok (.iconst 0, 1) := by decide +kernel
theorem dL_law_303 : decode cL_law 303 = .ok (.laload, 1) := by decide +kernel
theorem dL_law_304 : decode cL_law 304 = .ok (.iload 6, 2) := by decide +kernel
theorem dL_law_306 : decode cL_law 306 = .ok (.i2l, 1) := by decide +kernel
theorem dL_law_307 : decode cL_law 307 = .ok (.lcmp, 1) := by decide +kernel
theorem dL_law_308 : decode cL_law 308 = .ok (.ifCond .eq 5, 3) := by decide +kernel
theorem dL_law_311 : decode cL_law 311 = .ok (.iconst 0, 1) := by decide +kernel
theorem dL_law_312 : decode cL_law 312 = .ok (.ireturn, 1) := by decide +kernel
theorem dL_law_313 : decode cL_law 313 = .ok (.goto 748, 3) := by decide +kernel
theorem dL_law_316 : decode cL_law 316 = .ok (.aload_n 1, 1) := by decide +kernel
theorem dL_law_317 : decode cL_law 317 = .ok (.aload_n 0, 1) := by decide +kernel
theorem dL_law_318 : decode cL_law 318 = .ok (.iload 4, 2) := by decide +kernel
theorem dL_law_320 : decode cL_law 320 = .ok (.iconst 1, 1) := by decide +kernel
theorem dL_law_321 : decode cL_law 321 = .ok (.iadd, 1) := by decide +kernel
theorem dL_law_322 : decode cL_law 322 = .ok (.iaload, 1) := by decide +kernel
theorem dL_law_323 : decode cL_law 323 = .ok (.aload_n 0, 1) := by decide +kernel
theorem dL_law_324 : decode cL_law 324 = .ok (.iload 4, 2) := by decide +kernel
end
section
theorem dL_law_326 : decode cL_law 326 = .ok (.iconst 2, 1) := by decide +kernel
theorem dL_law_327 : decode cL_law 327 = .ok (.iadd, 1) := by decide +kernel
theorem dL_law_328 : decode cL_law 328 = .ok (.iaload, 1) := by decide +kernel
theorem dL_law_329 : decode cL_law 329 = .ok (.invokestatic 91, 3) := by decide +kernel
theorem dL_law_332 : decode cL_law 332 = .ok (.istore 5, 2) := by decide +kernel
theorem dL_law_334 : decode cL_law 334 = .ok (.aload_n 2, 1) := by decide +kernel
theorem dL_law_335 : decode cL_law 335 = .ok (.aload_n 0, 1) := by decide +kernel
theorem dL_law_336 : decode cL_law 336 = .ok (.iload 4, 2) := by decide +kernel
theorem dL_law_338 : decode cL_law 338 = .ok (.iconst 1, 1) := by decide +kernel
theorem dL_law_339 : decode cL_law 339 = .ok (.iadd, 1) := by decide +kernel
theorem dL_law_340 : decode cL_law 340 = .ok (.iaload, 1) := by decide +kernel
theorem dL_law_341 : decode cL_law 341 = .ok (.aload_n 0, 1) := by decide +kernel
theorem dL_law_342 : decode cL_law 342 = .ok (.iload 4, 2) := by decide +kernel
theorem dL_law_344 : decode cL_law 344 = .ok (.iconst 2, 1) := by decide +kernel
theorem dL_law_345 : decode cL_law 345 = .ok (.iadd, 1) := by decide +kernel
theorem dL_law_346 : decode cL_law 346 = .ok (.iaload, 1) := by decide +kernel
theorem dL_law_347 : decode cL_law 347 = .ok (.invokevirtual 94, 3) := by decide +kernel
theorem dL_law_350 : decode cL_law 350 = .ok (.aload_n 2, 1) := by decide +kernel
theorem dL_law_351 : decode cL_law 351 = .ok (.invokevirtual 81, 3) := by decide +kernel
theorem dL_law_354 : decode cL_law 354 = .ok (.iload 5, 2) := by decide +kernel
theorem dL_law_356 : decode cL_law 356 = .ok (.if_icmp .eq 5, 3) := by decide +kernel
theorem dL_law_359 : decode cL_law 359 = .ok (.iconst 0, 1) := by decide +kernel
theorem dL_law_360 : decode cL_law 360 = .ok (.ireturn, 1) := by decide +kernel
theorem dL_law_361 : decode cL_law 361 = .ok (.goto 700, 3) := by decide +kernel
theorem dL_law_364 : decode cL_law 364 = .ok (.aload_n 1, 1) := by decide +kernel
theorem dL_law_365 : decode cL_law 365 = .ok (.aload_n 0, 1) := by decide +kernel
theorem dL_law_366 : decode cL_law 366 = .ok (.iload 4, 2) := by decide +kernel
theorem dL_law_368 : decode cL_law 368 = .ok (.iconst 1, 1) := by decide +kernel
theorem dL_law_369 : decode cL_law 369 = .ok (.iadd, 1) := by decide +kernel
theorem dL_law_370 : decode cL_law 370 = .ok (.iaload, 1) := by decide +kernel
theorem dL_law_371 : decode cL_law 371 = .ok (.aload_n 0, 1) := by decide +kernel
theorem dL_law_372 : decode cL_law 372 = .ok (.iload 4, 2) := by decide +kernel
theorem dL_law_374 : decode cL_law 374 = .ok (.iconst 2, 1) := by decide +kernel
theorem dL_law_375 : decode cL_law 375 = .ok (.iadd, 1) := by decide +kernel
theorem dL_law_376 : decode cL_law 376 = .ok (.iaload, 1) := by decide +kernel
theorem dL_law_377 : decode cL_law 377 = .ok (.invokestatic 95, 3) := by decide +kernel
theorem dL_law_380 : decode cL_law 380 = .ok (.istore 5, 2) := by decide +kernel
theorem dL_law_382 : decode cL_law 382 = .ok (.aload_n 2, 1) := by decide +kernel
theorem dL_law_383 : decode cL_law 383 = .ok (.aload_n 0, 1) := by decide +kernel
theorem dL_law_384 : decode cL_law 384 = .ok (.iload 4, 2) := by decide +kernel
theorem dL_law_386 : decode cL_law 386 = .ok (.iconst 1, 1) := by decide +kernel
theorem dL_law_387 : decode cL_law 387 = .ok (.iadd, 1) := by decide +kernel
theorem dL_law_388 : decode cL_law 388 = .ok (.iaload, 1) := by decide +kernel
theorem dL_law_389 : decode cL_law 389 = .ok (.aload_n 0, 1) := by decide +kernel
theorem dL_law_390 : decode cL_law 390 = .ok (.iload 4, 2) := by decide +kernel
theorem dL_law_392 : decode cL_law 392 = .ok (.iconst 2, 1) := by decide +kernel
theorem dL_law_393 : decode cL_law 393 = .ok (.iadd, 1) := by decide +kernel
theorem dL_law_394 : decode cL_law 394 = .ok (.iaload, 1) := by decide +kernel
theorem dL_law_395 : decode cL_law 395 = .ok (.invokevirtual 97, 3) := by decide +kernel
theorem dL_law_398 : decode cL_law 398 = .ok (.aload_n 2, 1) := by decide +kernel
theorem dL_law_399 : decode cL_law 399 = .ok (.invokevirtual 81, 3) := by decide +kernel
theorem dL_law_402 : decode cL_law 402 = .ok (.iload 5, 2) := by decide +kernel
theorem dL_law_404 : decode cL_law 404 = .ok (.if_icmp .eq 5, 3) := by decide +kernel
theorem dL_law_407 : decode cL_law 407 = .ok (.iconst 0, 1) := by decide +kernel
theorem dL_law_408 : decode cL_law 408 = .ok (.ireturn, 1) := by decide +kernel
theorem dL_law_409 : decode cL_law 409 = .ok (.goto 652, 3) := by decide +kernel
theorem dL_law_412 : decode cL_law 412 = .ok (.aload_n 1, 1) := by decide +kernel
theorem dL_law_413 : decode cL_law 413 = .ok (.aload_n 0, 1) := by decide +kernel
theorem dL_law_414 : decode cL_law 414 = .ok (.iload 4, 2) := by decide +kernel
theorem dL_law_416 : decode cL_law 416 = .ok (.iconst 1, 1) := by decide +kernel
theorem dL_law_417 : decode cL_law 417 = .ok (.iadd, 1) := by decide +kernel
theorem dL_law_418 : decode cL_law 418 = .ok (.iaload, 1) := by decide +kernel
theorem dL_law_419 : decode cL_law 419 = .ok (.aload_n 0, 1) := by decide +kernel
theorem dL_law_420 : decode cL_law 420 = .ok (.iload 4, 2) := by decide +kernel
theorem dL_law_422 : decode cL_law 422 = .ok (.iconst 2, 1) := by decide +kernel
theorem dL_law_423 : decode cL_law 423 = .ok (.iadd, 1) := by decide +kernel
theorem dL_law_424 : decode cL_law 424 = .ok (.iaload, 1) := by decide +kernel
theorem dL_law_425 : decode cL_law 425 = .ok (.invokestatic 98, 3) := by decide +kernel
theorem dL_law_428 : decode cL_law 428 = .ok (.istore 5, 2) := by decide +kernel
theorem dL_law_430 : decode cL_law 430 = .ok (.aload_n 2, 1) := by decide +kernel
theorem dL_law_431 : decode cL_law 431 = .ok (.aload_n 0, 1) := by decide +kernel
theorem dL_law_432 : decode cL_law 432 = .ok (.iload 4, 2) := by decide +kernel
theorem dL_law_434 : decode cL_law 434 = .ok (.iconst 1, 1) := by decide +kernel
theorem dL_law_435 : decode cL_law 435 = .ok (.iadd, 1) := by decide +kernel
theorem dL_law_436 : decode cL_law 436 = .ok (.iaload, 1) := by decide +kernel
theorem dL_law_437 : decode cL_law 437 = .ok (.aload_n 0, 1) := by decide +kernel
end
section
theorem dL_law_438 : decode cL_law 438 = .ok (.iload 4, 2) := by decide +kernel
theorem dL_law_440 : decode cL_law 440 = .ok (.iconst 2, 1) := by decide +kernel
theorem dL_law_441 : decode cL_law 441 = .ok (.iadd, 1) := by decide +kernel
theorem dL_law_442 : decode cL_law 442 = .ok (.iaload, 1) := by decide +kernel
theorem dL_law_443 : decode cL_law 443 = .ok (.invokevirtual 100, 3) := by decide +kernel
theorem dL_law_446 : decode cL_law 446 = .ok (.aload_n 2, 1) := by decide +kernel
theorem dL_law_447 : decode cL_law 447 = .ok (.invokevirtual 81, 3) := by decide +kernel
theorem dL_law_450 : decode cL_law 450 = .ok (.iload 5, 2) := by decide +kernel
theorem dL_law_452 : decode cL_law 452 = .ok (.if_icmp .eq 5, 3) := by decide +kernel
theorem dL_law_455 : decode cL_law 455 = .ok (.iconst 0, 1) := by decide +kernel
theorem dL_law_456 : decode cL_law 456 = .ok (.ireturn, 1) := by decide +kernel
theorem dL_law_457 : decode cL_law 457 = .ok (.goto 604, 3) := by decide +kernel
theorem dL_law_460 : decode cL_law 460 = .ok (.aload_n 1, 1) := by decide +kernel
theorem dL_law_461 : decode cL_law 461 = .ok (.aload_n 0, 1) := by decide +kernel
theorem dL_law_462 : decode cL_law 462 = .ok (.iload 4, 2) := by decide +kernel
theorem dL_law_464 : decode cL_law 464 = .ok (.iconst 1, 1) := by decide +kernel
theorem dL_law_465 : decode cL_law 465 = .ok (.iadd, 1) := by decide +kernel
theorem dL_law_466 : decode cL_law 466 = .ok (.iaload, 1) := by decide +kernel
theorem dL_law_467 : decode cL_law 467 = .ok (.aload_n 3, 1) := by decide +kernel
theorem dL_law_468 : decode cL_law 468 = .ok (.invokestatic 101, 3) := by decide +kernel
theorem dL_law_471 : decode cL_law 471 = .ok (.istore 5, 2) := by decide +kernel
theorem dL_law_473 : decode cL_law 473 = .ok (.aload_n 2, 1) := by decide +kernel
theorem dL_law_474 : decode cL_law 474 = .ok (.aload_n 0, 1) := by decide +kernel
theorem dL_law_475 : decode cL_law 475 = .ok (.iload 4, 2) := by decide +kernel
theorem dL_law_477 : decode cL_law 477 = .ok (.iconst 1, 1) := by decide +kernel
theorem dL_law_478 : decode cL_law 478 = .ok (.iadd, 1) := by decide +kernel
theorem dL_law_479 : decode cL_law 479 = .ok (.iaload, 1) := by decide +kernel
theorem dL_law_480 : decode cL_law 480 = .ok (.invokevirtual 103, 3) := by decide +kernel
theorem dL_law_483 : decode cL_law 483 = .ok (.istore 6, 2) := by decide +kernel
theorem dL_law_485 : decode cL_law 485 = .ok (.aload_n 2, 1) := by decide +kernel
theorem dL_law_486 : decode cL_law 486 = .ok (.invokevirtual 81, 3) := by decide +kernel
theorem dL_law_489 : decode cL_law 489 = .ok (.iload 5, 2) := by decide +kernel
theorem dL_law_491 : decode cL_law 491 = .ok (.if_icmp .eq 5, 3) := by decide +kernel
theorem dL_law_494 : decode cL_law 494 = .ok (.iconst 0, 1) := by decide +kernel
theorem dL_law_495 : decode cL_law 495 = .ok (.ireturn, 1) := by decide +kernel
theorem dL_law_496 : decode cL_law 496 = .ok (.iload 5, 2) := by decide +kernel
theorem dL_law_498 : decode cL_law 498 = .ok (.ifCond .ne 15, 3) := by decide +kernel
theorem dL_law_501 : decode cL_law 501 = .ok (.aload_n 3, 1) := by decide +kernel
theorem dL_law_502 : decode cL_law 502 = .ok (.iconst 0, 1) := by decide +kernel
theorem dL_law_503 : decode cL_law 503 = .ok (.laload, 1) := by decide +kernel
theorem dL_law_504 : decode cL_law 504 = .ok (.iload 6, 2) := by decide +kernel
theorem dL_law_506 : decode cL_law 506 = .ok (.i2l, 1) := by decide +kernel
theorem dL_law_507 : decode cL_law 507 = .ok (.lcmp, 1) := by decide +kernel
theorem dL_law_508 : decode cL_law 508 = .ok (.ifCond .eq 5, 3) := by decide +kernel
theorem dL_law_511 : decode cL_law 511 = .ok (.iconst 0, 1) := by decide +kernel
theorem dL_law_512 : decode cL_law 512 = .ok (.ireturn, 1) := by decide +kernel
theorem dL_law_513 : decode cL_law 513 = .ok (.goto 548, 3) := by decide +kernel
theorem dL_law_516 : decode cL_law 516 = .ok (.aload_n 1, 1) := by decide +kernel
theorem dL_law_517 : decode cL_law 517 = .ok (.aload_n 0, 1) := by decide +kernel
theorem dL_law_518 : decode cL_law 518 = .ok (.iload 4, 2) := by decide +kernel
theorem dL_law_520 : decode cL_law 520 = .ok (.iconst 1, 1) := by decide +kernel
theorem dL_law_521 : decode cL_law 521 = .ok (.iadd, 1) := by decide +kernel
theorem dL_law_522 : decode cL_law 522 = .ok (.iaload, 1) := by decide +kernel
theorem dL_law_523 : decode cL_law 523 = .ok (.aload_n 3, 1) := by decide +kernel
theorem dL_law_524 : decode cL_law 524 = .ok (.invokestatic 104, 3) := by decide +kernel
theorem dL_law_527 : decode cL_law 527 = .ok (.istore 5, 2) := by decide +kernel
theorem dL_law_529 : decode cL_law 529 = .ok (.aload_n 2, 1) := by decide +kernel
theorem dL_law_530 : decode cL_law 530 = .ok (.aload_n 0, 1) := by decide +kernel
theorem dL_law_531 : decode cL_law 531 = .ok (.iload 4, 2) := by decide +kernel
theorem dL_law_533 : decode cL_law 533 = .ok (.iconst 1, 1) := by decide +kernel
theorem dL_law_534 : decode cL_law 534 = .ok (.iadd, 1) := by decide +kernel
theorem dL_law_535 : decode cL_law 535 = .ok (.iaload, 1) := by decide +kernel
theorem dL_law_536 : decode cL_law 536 = .ok (.invokevirtual 106, 3) := by decide +kernel
theorem dL_law_539 : decode cL_law 539 = .ok (.istore 6, 2) := by decide +kernel
theorem dL_law_541 : decode cL_law 541 = .ok (.aload_n 2, 1) := by decide +kernel
theorem dL_law_542 : decode cL_law 542 = .ok (.invokevirtual 81, 3) := by decide +kernel
theorem dL_law_545 : decode cL_law 545 = .ok (.iload 5, 2) := by decide +kernel
theorem dL_law_547 : decode cL_law 547 = .ok (.if_icmp .eq 5, 3) := by decide +kernel
theorem dL_law_550 : decode cL_law 550 = .ok (.iconst 0, 1) := by decide +kernel
theorem dL_law_551 : decode cL_law 551 = .ok (.ireturn, 1) := by decide +kernel
theorem dL_law_552 : decode cL_law 552 = .ok (.iload 5, 2) := by decide +kernel
theorem dL_law_554 : decode cL_law 554 = .ok (.ifCond .ne 15, 3) := by decide +kernel
theorem dL_law_557 : decode cL_law 557 = .ok (.aload_n 3, 1) := by decide +kernel
theorem dL_law_558 : decode cL_law 558 = .ok (.iconst 0, 1) := by decide +kernel
theorem dL_law_559 : decode cL_law 559 = .ok (.laload, 1) := by decide +kernel
theorem dL_law_560 : decode cL_law 560 = .ok (.iload 6, 2) := by decide +kernel
end
section
theorem dL_law_562 : decode cL_law 562 = .ok (.i2l, 1) := by decide +kernel
theorem dL_law_563 : decode cL_law 563 = .ok (.lcmp, 1) := by decide +kernel
theorem dL_law_564 : decode cL_law 564 = .ok (.ifCond .eq 5, 3) := by decide +kernel
theorem dL_law_567 : decode cL_law 567 = .ok (.iconst 0, 1) := by decide +kernel
theorem dL_law_568 : decode cL_law 568 = .ok (.ireturn, 1) := by decide +kernel
theorem dL_law_569 : decode cL_law 569 = .ok (.goto 492, 3) := by decide +kernel
theorem dL_law_572 : decode cL_law 572 = .ok (.aload_n 1, 1) := by decide +kernel
theorem dL_law_573 : decode cL_law 573 = .ok (.invokestatic 107, 3) := by decide +kernel
theorem dL_law_576 : decode cL_law 576 = .ok (.istore 5, 2) := by decide +kernel
theorem dL_law_578 : decode cL_law 578 = .ok (.aload_n 2, 1) := by decide +kernel
theorem dL_law_579 : decode cL_law 579 = .ok (.invokevirtual 110, 3) := by decide +kernel
theorem dL_law_582 : decode cL_law 582 = .ok (.aload_n 2, 1) := by decide +kernel
theorem dL_law_583 : decode cL_law 583 = .ok (.invokevirtual 81, 3) := by decide +kernel
theorem dL_law_586 : decode cL_law 586 = .ok (.iload 5, 2) := by decide +kernel
theorem dL_law_588 : decode cL_law 588 = .ok (.if_icmp .eq 5, 3) := by decide +kernel
theorem dL_law_591 : decode cL_law 591 = .ok (.iconst 0, 1) := by decide +kernel
theorem dL_law_592 : decode cL_law 592 = .ok (.ireturn, 1) := by decide +kernel
theorem dL_law_593 : decode cL_law 593 = .ok (.goto 468, 3) := by decide +kernel
theorem dL_law_596 : decode cL_law 596 = .ok (.aload_n 1, 1) := by decide +kernel
theorem dL_law_597 : decode cL_law 597 = .ok (.aload_n 3, 1) := by decide +kernel
theorem dL_law_598 : decode cL_law 598 = .ok (.invokestatic 111, 3) := by decide +kernel
theorem dL_law_601 : decode cL_law 601 = .ok (.istore 5, 2) := by decide +kernel
theorem dL_law_603 : decode cL_law 603 = .ok (.aload_n 2, 1) := by decide +kernel
theorem dL_law_604 : decode cL_law 604 = .ok (.invokevirtual 114, 3) := by decide +kernel
theorem dL_law_607 : decode cL_law 607 = .ok (.istore 6, 2) := by decide +kernel
theorem dL_law_609 : decode cL_law 609 = .ok (.aload_n 2, 1) := by decide +kernel
theorem dL_law_610 : decode cL_law 610 = .ok (.invokevirtual 81, 3) := by decide +kernel
theorem dL_law_613 : decode cL_law 613 = .ok (.iload 5, 2) := by decide +kernel
theorem dL_law_615 : decode cL_law 615 = .ok (.if_icmp .eq 5, 3) := by decide +kernel
theorem dL_law_618 : decode cL_law 618 = .ok (.iconst 0, 1) := by decide +kernel
theorem dL_law_619 : decode cL_law 619 = .ok (.ireturn, 1) := by decide +kernel
theorem dL_law_620 : decode cL_law 620 = .ok (.iload 5, 2) := by decide +kernel
theorem dL_law_622 : decode cL_law 622 = .ok (.ifCond .ne 15, 3) := by decide +kernel
theorem dL_law_625 : decode cL_law 625 = .ok (.aload_n 3, 1) := by decide +kernel
theorem dL_law_626 : decode cL_law 626 = .ok (.iconst 0, 1) := by decide +kernel
theorem dL_law_627 : decode cL_law 627 = .ok (.laload, 1) := by decide +kernel
theorem dL_law_628 : decode cL_law 628 = .ok (.iload 6, 2) := by decide +kernel
theorem dL_law_630 : decode cL_law 630 = .ok (.i2l, 1) := by decide +kernel
theorem dL_law_631 : decode cL_law 631 = .ok (.lcmp, 1) := by decide +kernel
theorem dL_law_632 : decode cL_law 632 = .ok (.ifCond .eq 5, 3) := by decide +kernel
theorem dL_law_635 : decode cL_law 635 = .ok (.iconst 0, 1) := by decide +kernel
theorem dL_law_636 : decode cL_law 636 = .ok (.ireturn, 1) := by decide +kernel
theorem dL_law_637 : decode cL_law 637 = .ok (.goto 424, 3) := by decide +kernel
theorem dL_law_640 : decode cL_law 640 = .ok (.aload_n 1, 1) := by decide +kernel
theorem dL_law_641 : decode cL_law 641 = .ok (.aload_n 3, 1) := by decide +kernel
theorem dL_law_642 : decode cL_law 642 = .ok (.invokestatic 115, 3) := by decide +kernel
theorem dL_law_645 : decode cL_law 645 = .ok (.istore 5, 2) := by decide +kernel
theorem dL_law_647 : decode cL_law 647 = .ok (.aload_n 2, 1) := by decide +kernel
theorem dL_law_648 : decode cL_law 648 = .ok (.invokevirtual 117, 3) := by decide +kernel
theorem dL_law_651 : decode cL_law 651 = .ok (.istore 6, 2) := by decide +kernel
theorem dL_law_653 : decode cL_law 653 = .ok (.aload_n 2, 1) := by decide +kernel
theorem dL_law_654 : decode cL_law 654 = .ok (.invokevirtual 81, 3) := by decide +kernel
theorem dL_law_657 : decode cL_law 657 = .ok (.iload 5, 2) := by decide +kernel
theorem dL_law_659 : decode cL_law 659 = .ok (.if_icmp .eq 5, 3) := by decide +kernel
theorem dL_law_662 : decode cL_law 662 = .ok (.iconst 0, 1) := by decide +kernel
theorem dL_law_663 : decode cL_law 663 = .ok (.ireturn, 1) := by decide +kernel
theorem dL_law_664 : decode cL_law 664 = .ok (.iload 5, 2) := by decide +kernel
theorem dL_law_666 : decode cL_law 666 = .ok (.ifCond .ne 15, 3) := by decide +kernel
theorem dL_law_669 : decode cL_law 669 = .ok (.aload_n 3, 1) := by decide +kernel
theorem dL_law_670 : decode cL_law 670 = .ok (.iconst 0, 1) := by decide +kernel
theorem dL_law_671 : decode cL_law 671 = .ok (.laload, 1) := by decide +kernel
theorem dL_law_672 : decode cL_law 672 = .ok (.iload 6, 2) := by decide +kernel
theorem dL_law_674 : decode cL_law 674 = .ok (.i2l, 1) := by decide +kernel
theorem dL_law_675 : decode cL_law 675 = .ok (.lcmp, 1) := by decide +kernel
theorem dL_law_676 : decode cL_law 676 = .ok (.ifCond .eq 5, 3) := by decide +kernel
theorem dL_law_679 : decode cL_law 679 = .ok (.iconst 0, 1) := by decide +kernel
theorem dL_law_680 : decode cL_law 680 = .ok (.ireturn, 1) := by decide +kernel
theorem dL_law_681 : decode cL_law 681 = .ok (.goto 380, 3) := by decide +kernel
theorem dL_law_684 : decode cL_law 684 = .ok (.aload_n 1, 1) := by decide +kernel
theorem dL_law_685 : decode cL_law 685 = .ok (.aload_n 0, 1) := by decide +kernel
theorem dL_law_686 : decode cL_law 686 = .ok (.iload 4, 2) := by decide +kernel
theorem dL_law_688 : decode cL_law 688 = .ok (.iconst 1, 1) := by decide +kernel
theorem dL_law_689 : decode cL_law 689 = .ok (.iadd, 1) := by decide +kernel
theorem dL_law_690 : decode cL_law 690 = .ok (.iaload, 1) := by decide +kernel
theorem dL_law_691 : decode cL_law 691 = .ok (.aload_n 3, 1) := by decide +kernel
theorem dL_law_692 : decode cL_law 692 = .ok (.invokestatic 118, 3) := by decide +kernel
end
section
theorem dL_law_695 : decode cL_law 695 = .ok (.istore 5, 2) := by decide +kernel
theorem dL_law_697 : decode cL_law 697 = .ok (.aload_n 2, 1) := by decide +kernel
theorem dL_law_698 : decode cL_law 698 = .ok (.aload_n 0, 1) := by decide +kernel
theorem dL_law_699 : decode cL_law 699 = .ok (.iload 4, 2) := by decide +kernel
theorem dL_law_701 : decode cL_law 701 = .ok (.iconst 1, 1) := by decide +kernel
theorem dL_law_702 : decode cL_law 702 = .ok (.iadd, 1) := by decide +kernel
theorem dL_law_703 : decode cL_law 703 = .ok (.iaload, 1) := by decide +kernel
theorem dL_law_704 : decode cL_law 704 = .ok (.invokevirtual 120, 3) := by decide +kernel
theorem dL_law_707 : decode cL_law 707 = .ok (.istore 6, 2) := by decide +kernel
theorem dL_law_709 : decode cL_law 709 = .ok (.aload_n 2, 1) := by decide +kernel
theorem dL_law_710 : decode cL_law 710 = .ok (.invokevirtual 81, 3) := by decide +kernel
theorem dL_law_713 : decode cL_law 713 = .ok (.iload 5, 2) := by decide +kernel
theorem dL_law_715 : decode cL_law 715 = .ok (.if_icmp .eq 5, 3) := by decide +kernel
theorem dL_law_718 : decode cL_law 718 = .ok (.iconst 0, 1) := by decide +kernel
theorem dL_law_719 : decode cL_law 719 = .ok (.ireturn, 1) := by decide +kernel
theorem dL_law_720 : decode cL_law 720 = .ok (.iload 5, 2) := by decide +kernel
theorem dL_law_722 : decode cL_law 722 = .ok (.ifCond .ne 15, 3) := by decide +kernel
theorem dL_law_725 : decode cL_law 725 = .ok (.aload_n 3, 1) := by decide +kernel
theorem dL_law_726 : decode cL_law 726 = .ok (.iconst 0, 1) := by decide +kernel
theorem dL_law_727 : decode cL_law 727 = .ok (.laload, 1) := by decide +kernel
theorem dL_law_728 : decode cL_law 728 = .ok (.iload 6, 2) := by decide +kernel
theorem dL_law_730 : decode cL_law 730 = .ok (.i2l, 1) := by decide +kernel
theorem dL_law_731 : decode cL_law 731 = .ok (.lcmp, 1) := by decide +kernel
theorem dL_law_732 : decode cL_law 732 = .ok (.ifCond .eq 5, 3) := by decide +kernel
theorem dL_law_735 : decode cL_law 735 = .ok (.iconst 0, 1) := by decide +kernel
theorem dL_law_736 : decode cL_law 736 = .ok (.ireturn, 1) := by decide +kernel
theorem dL_law_737 : decode cL_law 737 = .ok (.goto 324, 3) := by decide +kernel
theorem dL_law_740 : decode cL_law 740 = .ok (.aload_n 1, 1) := by decide +kernel
theorem dL_law_741 : decode cL_law 741 = .ok (.invokevirtual 121, 3) := by decide +kernel
theorem dL_law_744 : decode cL_law 744 = .ok (.aload_n 2, 1) := by decide +kernel
theorem dL_law_745 : decode cL_law 745 = .ok (.invokevirtual 124, 3) := by decide +kernel
theorem dL_law_748 : decode cL_law 748 = .ok (.if_icmp .eq 313, 3) := by decide +kernel
theorem dL_law_751 : decode cL_law 751 = .ok (.iconst 0, 1) := by decide +kernel
theorem dL_law_752 : decode cL_law 752 = .ok (.ireturn, 1) := by decide +kernel
theorem dL_law_753 : decode cL_law 753 = .ok (.aload_n 1, 1) := by decide +kernel
theorem dL_law_754 : decode cL_law 754 = .ok (.invokevirtual 125, 3) := by decide +kernel
theorem dL_law_757 : decode cL_law 757 = .ok (.aload_n 2, 1) := by decide +kernel
theorem dL_law_758 : decode cL_law 758 = .ok (.invokevirtual 128, 3) := by decide +kernel
theorem dL_law_761 : decode cL_law 761 = .ok (.if_icmp .eq 300, 3) := by decide +kernel
theorem dL_law_764 : decode cL_law 764 = .ok (.iconst 0, 1) := by decide +kernel
theorem dL_law_765 : decode cL_law 765 = .ok (.ireturn, 1) := by decide +kernel
theorem dL_law_766 : decode cL_law 766 = .ok (.aload_n 1, 1) := by decide +kernel
theorem dL_law_767 : decode cL_law 767 = .ok (.invokevirtual 129, 3) := by decide +kernel
theorem dL_law_770 : decode cL_law 770 = .ok (.aload_n 2, 1) := by decide +kernel
theorem dL_law_771 : decode cL_law 771 = .ok (.invokevirtual 132, 3) := by decide +kernel
theorem dL_law_774 : decode cL_law 774 = .ok (.if_icmp .eq 287, 3) := by decide +kernel
theorem dL_law_777 : decode cL_law 777 = .ok (.iconst 0, 1) := by decide +kernel
theorem dL_law_778 : decode cL_law 778 = .ok (.ireturn, 1) := by decide +kernel
theorem dL_law_779 : decode cL_law 779 = .ok (.aload_n 1, 1) := by decide +kernel
theorem dL_law_780 : decode cL_law 780 = .ok (.invokevirtual 133, 3) := by decide +kernel
theorem dL_law_783 : decode cL_law 783 = .ok (.aload_n 2, 1) := by decide +kernel
theorem dL_law_784 : decode cL_law 784 = .ok (.invokevirtual 136, 3) := by decide +kernel
theorem dL_law_787 : decode cL_law 787 = .ok (.if_icmp .eq 274, 3) := by decide +kernel
theorem dL_law_790 : decode cL_law 790 = .ok (.iconst 0, 1) := by decide +kernel
theorem dL_law_791 : decode cL_law 791 = .ok (.ireturn, 1) := by decide +kernel
theorem dL_law_792 : decode cL_law 792 = .ok (.aload_n 1, 1) := by decide +kernel
theorem dL_law_793 : decode cL_law 793 = .ok (.aload_n 0, 1) := by decide +kernel
theorem dL_law_794 : decode cL_law 794 = .ok (.iload 4, 2) := by decide +kernel
theorem dL_law_796 : decode cL_law 796 = .ok (.iconst 1, 1) := by decide +kernel
theorem dL_law_797 : decode cL_law 797 = .ok (.iadd, 1) := by decide +kernel
theorem dL_law_798 : decode cL_law 798 = .ok (.iaload, 1) := by decide +kernel
theorem dL_law_799 : decode cL_law 799 = .ok (.aload_n 0, 1) := by decide +kernel
theorem dL_law_800 : decode cL_law 800 = .ok (.iload 4, 2) := by decide +kernel
theorem dL_law_802 : decode cL_law 802 = .ok (.iconst 2, 1) := by decide +kernel
theorem dL_law_803 : decode cL_law 803 = .ok (.iadd, 1) := by decide +kernel
theorem dL_law_804 : decode cL_law 804 = .ok (.iaload, 1) := by decide +kernel
theorem dL_law_805 : decode cL_law 805 = .ok (.aload_n 3, 1) := by decide +kernel
theorem dL_law_806 : decode cL_law 806 = .ok (.invokestatic 137, 3) := by decide +kernel
theorem dL_law_809 : decode cL_law 809 = .ok (.istore 5, 2) := by decide +kernel
theorem dL_law_811 : decode cL_law 811 = .ok (.aload_n 2, 1) := by decide +kernel
theorem dL_law_812 : decode cL_law 812 = .ok (.aload_n 0, 1) := by decide +kernel
theorem dL_law_813 : decode cL_law 813 = .ok (.iload 4, 2) := by decide +kernel
theorem dL_law_815 : decode cL_law 815 = .ok (.iconst 1, 1) := by decide +kernel
theorem dL_law_816 : decode cL_law 816 = .ok (.iadd, 1) := by decide +kernel
theorem dL_law_817 : decode cL_law 817 = .ok (.iaload, 1) := by decide +kernel
theorem dL_law_818 : decode cL_law 818 = .ok (.aload_n 0, 1) := by decide +kernel
end
section
theorem dL_law_819 : decode cL_law 819 = .ok (.iload 4, 2) := by decide +kernel
theorem dL_law_821 : decode cL_law 821 = .ok (.iconst 2, 1) := by decide +kernel
theorem dL_law_822 : decode cL_law 822 = .ok (.iadd, 1) := by decide +kernel
theorem dL_law_823 : decode cL_law 823 = .ok (.iaload, 1) := by decide +kernel
theorem dL_law_824 : decode cL_law 824 = .ok (.invokevirtual 140, 3) := by decide +kernel
theorem dL_law_827 : decode cL_law 827 = .ok (.istore 6, 2) := by decide +kernel
theorem dL_law_829 : decode cL_law 829 = .ok (.aload_n 2, 1) := by decide +kernel
theorem dL_law_830 : decode cL_law 830 = .ok (.invokevirtual 81, 3) := by decide +kernel
theorem dL_law_833 : decode cL_law 833 = .ok (.iload 5, 2) := by decide +kernel
theorem dL_law_835 : decode cL_law 835 = .ok (.if_icmp .eq 5, 3) := by decide +kernel
theorem dL_law_838 : decode cL_law 838 = .ok (.iconst 0, 1) := by decide +kernel
theorem dL_law_839 : decode cL_law 839 = .ok (.ireturn, 1) := by decide +kernel
theorem dL_law_840 : decode cL_law 840 = .ok (.iload 5, 2) := by decide +kernel
theorem dL_law_842 : decode cL_law 842 = .ok (.ifCond .ne 15, 3) := by decide +kernel
theorem dL_law_845 : decode cL_law 845 = .ok (.aload_n 3, 1) := by decide +kernel
theorem dL_law_846 : decode cL_law 846 = .ok (.iconst 0, 1) := by decide +kernel
theorem dL_law_847 : decode cL_law 847 = .ok (.laload, 1) := by decide +kernel
theorem dL_law_848 : decode cL_law 848 = .ok (.iload 6, 2) := by decide +kernel
theorem dL_law_850 : decode cL_law 850 = .ok (.i2l, 1) := by decide +kernel
theorem dL_law_851 : decode cL_law 851 = .ok (.lcmp, 1) := by decide +kernel
theorem dL_law_852 : decode cL_law 852 = .ok (.ifCond .eq 5, 3) := by decide +kernel
theorem dL_law_855 : decode cL_law 855 = .ok (.iconst 0, 1) := by decide +kernel
theorem dL_law_856 : decode cL_law 856 = .ok (.ireturn, 1) := by decide +kernel
theorem dL_law_857 : decode cL_law 857 = .ok (.goto 204, 3) := by decide +kernel
theorem dL_law_860 : decode cL_law 860 = .ok (.aload_n 1, 1) := by decide +kernel
theorem dL_law_861 : decode cL_law 861 = .ok (.invokevirtual 141, 3) := by decide +kernel
theorem dL_law_864 : decode cL_law 864 = .ok (.aload_n 2, 1) := by decide +kernel
theorem dL_law_865 : decode cL_law 865 = .ok (.invokevirtual 144, 3) := by decide +kernel
theorem dL_law_868 : decode cL_law 868 = .ok (.if_icmp .eq 193, 3) := by decide +kernel
theorem dL_law_871 : decode cL_law 871 = .ok (.iconst 0, 1) := by decide +kernel
theorem dL_law_872 : decode cL_law 872 = .ok (.ireturn, 1) := by decide +kernel
theorem dL_law_873 : decode cL_law 873 = .ok (.aload_n 1, 1) := by decide +kernel
theorem dL_law_874 : decode cL_law 874 = .ok (.aload_n 0, 1) := by decide +kernel
theorem dL_law_875 : decode cL_law 875 = .ok (.iload 4, 2) := by decide +kernel
theorem dL_law_877 : decode cL_law 877 = .ok (.iconst 1, 1) := by decide +kernel
theorem dL_law_878 : decode cL_law 878 = .ok (.iadd, 1) := by decide +kernel
theorem dL_law_879 : decode cL_law 879 = .ok (.iaload, 1) := by decide +kernel
theorem dL_law_880 : decode cL_law 880 = .ok (.aload_n 3, 1) := by decide +kernel
theorem dL_law_881 : decode cL_law 881 = .ok (.invokestatic 145, 3) := by decide +kernel
theorem dL_law_884 : decode cL_law 884 = .ok (.istore 5, 2) := by decide +kernel
theorem dL_law_886 : decode cL_law 886 = .ok (.aload_n 2, 1) := by decide +kernel
theorem dL_law_887 : decode cL_law 887 = .ok (.aload_n 0, 1) := by decide +kernel
theorem dL_law_888 : decode cL_law 888 = .ok (.iload 4, 2) := by decide +kernel
theorem dL_law_890 : decode cL_law 890 = .ok (.iconst 1, 1) := by decide +kernel
theorem dL_law_891 : decode cL_law 891 = .ok (.iadd, 1) := by decide +kernel
theorem dL_law_892 : decode cL_law 892 = .ok (.iaload, 1) := by decide +kernel
theorem dL_law_893 : decode cL_law 893 = .ok (.invokevirtual 147, 3) := by decide +kernel
theorem dL_law_896 : decode cL_law 896 = .ok (.istore 6, 2) := by decide +kernel
theorem dL_law_898 : decode cL_law 898 = .ok (.aload_n 2, 1) := by decide +kernel
theorem dL_law_899 : decode cL_law 899 = .ok (.invokevirtual 81, 3) := by decide +kernel
theorem dL_law_902 : decode cL_law 902 = .ok (.iload 5, 2) := by decide +kernel
theorem dL_law_904 : decode cL_law 904 = .ok (.if_icmp .eq 5, 3) := by decide +kernel
theorem dL_law_907 : decode cL_law 907 = .ok (.iconst 0, 1) := by decide +kernel
theorem dL_law_908 : decode cL_law 908 = .ok (.ireturn, 1) := by decide +kernel
theorem dL_law_909 : decode cL_law 909 = .ok (.iload 5, 2) := by decide +kernel
theorem dL_law_911 : decode cL_law 911 = .ok (.ifCond .ne 22, 3) := by decide +kernel
theorem dL_law_914 : decode cL_law 914 = .ok (.aload_n 3, 1) := by decide +kernel
theorem dL_law_915 : decode cL_law 915 = .ok (.iconst 0, 1) := by decide +kernel
theorem dL_law_916 : decode cL_law 916 = .ok (.laload, 1) := by decide +kernel
theorem dL_law_917 : decode cL_law 917 = .ok (.iload 6, 2) := by decide +kernel
theorem dL_law_919 : decode cL_law 919 = .ok (.ifCond .eq 7, 3) := by decide +kernel
theorem dL_law_922 : decode cL_law 922 = .ok (.lconst 1, 1) := by decide +kernel
theorem dL_law_923 : decode cL_law 923 = .ok (.goto 4, 3) := by decide +kernel
theorem dL_law_926 : decode cL_law 926 = .ok (.lconst 0, 1) := by decide +kernel
theorem dL_law_927 : decode cL_law 927 = .ok (.lcmp, 1) := by decide +kernel
theorem dL_law_928 : decode cL_law 928 = .ok (.ifCond .eq 5, 3) := by decide +kernel
theorem dL_law_931 : decode cL_law 931 = .ok (.iconst 0, 1) := by decide +kernel
theorem dL_law_932 : decode cL_law 932 = .ok (.ireturn, 1) := by decide +kernel
theorem dL_law_933 : decode cL_law 933 = .ok (.goto 128, 3) := by decide +kernel
theorem dL_law_936 : decode cL_law 936 = .ok (.aload_n 1, 1) := by decide +kernel
theorem dL_law_937 : decode cL_law 937 = .ok (.invokevirtual 148, 3) := by decide +kernel
theorem dL_law_940 : decode cL_law 940 = .ok (.aload_n 2, 1) := by decide +kernel
theorem dL_law_941 : decode cL_law 941 = .ok (.invokevirtual 151, 3) := by decide +kernel
theorem dL_law_944 : decode cL_law 944 = .ok (.if_icmp .eq 117, 3) := by decide +kernel
theorem dL_law_947 : decode cL_law 947 = .ok (.iconst 0, 1) := by decide +kernel
theorem dL_law_948 : decode cL_law 948 = .ok (.ireturn, 1) := by decide +kernel
end
section
theorem dL_law_949 : decode cL_law 949 = .ok (.aload_n 1, 1) := by decide +kernel
theorem dL_law_950 : decode cL_law 950 = .ok (.aload_n 0, 1) := by decide +kernel
theorem dL_law_951 : decode cL_law 951 = .ok (.iload 4, 2) := by decide +kernel
theorem dL_law_953 : decode cL_law 953 = .ok (.iconst 1, 1) := by decide +kernel
theorem dL_law_954 : decode cL_law 954 = .ok (.iadd, 1) := by decide +kernel
theorem dL_law_955 : decode cL_law 955 = .ok (.iaload, 1) := by decide +kernel
theorem dL_law_956 : decode cL_law 956 = .ok (.aload_n 3, 1) := by decide +kernel
theorem dL_law_957 : decode cL_law 957 = .ok (.invokestatic 152, 3) := by decide +kernel
theorem dL_law_960 : decode cL_law 960 = .ok (.istore 5, 2) := by decide +kernel
theorem dL_law_962 : decode cL_law 962 = .ok (.aload_n 2, 1) := by decide +kernel
theorem dL_law_963 : decode cL_law 963 = .ok (.aload_n 0, 1) := by decide +kernel
theorem dL_law_964 : decode cL_law 964 = .ok (.iload 4, 2) := by decide +kernel
theorem dL_law_966 : decode cL_law 966 = .ok (.iconst 1, 1) := by decide +kernel
theorem dL_law_967 : decode cL_law 967 = .ok (.iadd, 1) := by decide +kernel
theorem dL_law_968 : decode cL_law 968 = .ok (.iaload, 1) := by decide +kernel
theorem dL_law_969 : decode cL_law 969 = .ok (.invokevirtual 154, 3) := by decide +kernel
theorem dL_law_972 : decode cL_law 972 = .ok (.istore 6, 2) := by decide +kernel
theorem dL_law_974 : decode cL_law 974 = .ok (.aload_n 2, 1) := by decide +kernel
theorem dL_law_975 : decode cL_law 975 = .ok (.invokevirtual 81, 3) := by decide +kernel
theorem dL_law_978 : decode cL_law 978 = .ok (.iload 5, 2) := by decide +kernel
theorem dL_law_980 : decode cL_law 980 = .ok (.if_icmp .eq 5, 3) := by decide +kernel
theorem dL_law_983 : decode cL_law 983 = .ok (.iconst 0, 1) := by decide +kernel
theorem dL_law_984 : decode cL_law 984 = .ok (.ireturn, 1) := by decide +kernel
theorem dL_law_985 : decode cL_law 985 = .ok (.iload 5, 2) := by decide +kernel
theorem dL_law_987 : decode cL_law 987 = .ok (.ifCond .ne 15, 3) := by decide +kernel
theorem dL_law_990 : decode cL_law 990 = .ok (.aload_n 3, 1) := by decide +kernel
theorem dL_law_991 : decode cL_law 991 = .ok (.iconst 0, 1) := by decide +kernel
theorem dL_law_992 : decode cL_law 992 = .ok (.laload, 1) := by decide +kernel
theorem dL_law_993 : decode cL_law 993 = .ok (.iload 6, 2) := by decide +kernel
theorem dL_law_995 : decode cL_law 995 = .ok (.i2l, 1) := by decide +kernel
theorem dL_law_996 : decode cL_law 996 = .ok (.lcmp, 1) := by decide +kernel
theorem dL_law_997 : decode cL_law 997 = .ok (.ifCond .eq 5, 3) := by decide +kernel
theorem dL_law_1000 : decode cL_law 1000 = .ok (.iconst 0, 1) := by decide +kernel
theorem dL_law_1001 : decode cL_law 1001 = .ok (.ireturn, 1) := by decide +kernel
theorem dL_law_1002 : decode cL_law 1002 = .ok (.goto 59, 3) := by decide +kernel
theorem dL_law_1005 : decode cL_law 1005 = .ok (.aload_n 1, 1) := by decide +kernel
theorem dL_law_1006 : decode cL_law 1006 = .ok (.aload_n 0, 1) := by decide +kernel
theorem dL_law_1007 : decode cL_law 1007 = .ok (.iload 4, 2) := by decide +kernel
theorem dL_law_1009 : decode cL_law 1009 = .ok (.iconst 1, 1) := by decide +kernel
theorem dL_law_1010 : decode cL_law 1010 = .ok (.iadd, 1) := by decide +kernel
theorem dL_law_1011 : decode cL_law 1011 = .ok (.iaload, 1) := by decide +kernel
theorem dL_law_1012 : decode cL_law 1012 = .ok (.aload_n 3, 1) := by decide +kernel
theorem dL_law_1013 : decode cL_law 1013 = .ok (.invokestatic 155, 3) := by decide +kernel
theorem dL_law_1016 : decode cL_law 1016 = .ok (.istore 5, 2) := by decide +kernel
theorem dL_law_1018 : decode cL_law 1018 = .ok (.aload_n 2, 1) := by decide +kernel
theorem dL_law_1019 : decode cL_law 1019 = .ok (.aload_n 0, 1) := by decide +kernel
theorem dL_law_1020 : decode cL_law 1020 = .ok (.iload 4, 2) := by decide +kernel
theorem dL_law_1022 : decode cL_law 1022 = .ok (.iconst 1, 1) := by decide +kernel
theorem dL_law_1023 : decode cL_law 1023 = .ok (.iadd, 1) := by decide +kernel
theorem dL_law_1024 : decode cL_law 1024 = .ok (.iaload, 1) := by decide +kernel
theorem dL_law_1025 : decode cL_law 1025 = .ok (.invokevirtual 157, 3) := by decide +kernel
theorem dL_law_1028 : decode cL_law 1028 = .ok (.istore 6, 2) := by decide +kernel
theorem dL_law_1030 : decode cL_law 1030 = .ok (.aload_n 2, 1) := by decide +kernel
theorem dL_law_1031 : decode cL_law 1031 = .ok (.invokevirtual 81, 3) := by decide +kernel
theorem dL_law_1034 : decode cL_law 1034 = .ok (.iload 5, 2) := by decide +kernel
theorem dL_law_1036 : decode cL_law 1036 = .ok (.if_icmp .eq 5, 3) := by decide +kernel
theorem dL_law_1039 : decode cL_law 1039 = .ok (.iconst 0, 1) := by decide +kernel
theorem dL_law_1040 : decode cL_law 1040 = .ok (.ireturn, 1) := by decide +kernel
theorem dL_law_1041 : decode cL_law 1041 = .ok (.iload 5, 2) := by decide +kernel
theorem dL_law_1043 : decode cL_law 1043 = .ok (.ifCond .ne 15, 3) := by decide +kernel
theorem dL_law_1046 : decode cL_law 1046 = .ok (.aload_n 3, 1) := by decide +kernel
theorem dL_law_1047 : decode cL_law 1047 = .ok (.iconst 0, 1) := by decide +kernel
theorem dL_law_1048 : decode cL_law 1048 = .ok (.laload, 1) := by decide +kernel
theorem dL_law_1049 : decode cL_law 1049 = .ok (.iload 6, 2) := by decide +kernel
theorem dL_law_1051 : decode cL_law 1051 = .ok (.i2l, 1) := by decide +kernel
theorem dL_law_1052 : decode cL_law 1052 = .ok (.lcmp, 1) := by decide +kernel
theorem dL_law_1053 : decode cL_law 1053 = .ok (.ifCond .eq 5, 3) := by decide +kernel
theorem dL_law_1056 : decode cL_law 1056 = .ok (.iconst 0, 1) := by decide +kernel
theorem dL_law_1057 : decode cL_law 1057 = .ok (.ireturn, 1) := by decide +kernel
theorem dL_law_1058 : decode cL_law 1058 = .ok (.goto 3, 3) := by decide +kernel
theorem dL_law_1061 : decode cL_law 1061 = .ok (.iinc 4 4, 3) := by decide +kernel
theorem dL_law_1064 : decode cL_law 1064 = .ok (.goto (-1041), 3) := by decide +kernel
theorem dL_law_1067 : decode cL_law 1067 = .ok (.iconst 1, 1) := by decide +kernel
theorem dL_law_1068 : decode cL_law 1068 = .ok (.ireturn, 1) := by decide +kernel
end
section
/-! MINE: the states of the class (XS) and of the reference (MS), their cells (xw, mw), a row an access. -/
abbrev XS : Type := (Nat → Int32) × (Nat → Int32) × (Nat → Int32) × (Nat → Int32) × (Nat → Int32) × (Nat → Int32) × (Nat → Int32) × Int32 × Int32 × Int32 × Int32 × Int32 × Int32 × Int32
def xA (v : XS) : Nat → Int32 := v.1
def xB (v : XS) : Nat → Int32 := v.2.1
def xC0 (v : XS) : Nat → Int32 := v.2.2.1
def xC1 (v : XS) : Nat → Int32 := v.2.2.2.1
def xC2 (v : XS) : Nat → Int32 := v.2.2.2.2.1
def xR (v : XS) : Nat → Int32 := v.2.2.2.2.2.1
def xN (v : XS) : Nat → Int32 := v.2.2.2.2.2.2.1
def xc (v : XS) : Int32 := v.2.2.2.2.2.2.2.1
def xp (v : XS) : Int32 := v.2.2.2.2.2.2.2.2.1
def xm (v : XS) : Int32 := v.2.2.2.2.2.2.2.2.2.1
def xt (v : XS) : Int32 := v.2.2.2.2.2.2.2.2.2.2.1
def xq (v : XS) : Int32 := v.2.2.2.2.2.2.2.2.2.2.2.1
def xk (v : XS) : Int32 := v.2.2.2.2.2.2.2.2.2.2.2.2.1
def xl (v : XS) : Int32 := v.2.2.2.2.2.2.2.2.2.2.2.2.2
def xUA (v : XS) (f : Nat → Int32) : XS := (f, v.2.1, v.2.2.1, v.2.2.2.1, v.2.2.2.2.1, v.2.2.2.2.2.1, v.2.2.2.2.2.2.1, v.2.2.2.2.2.2.2.1, v.2.2.2.2.2.2.2.2.1, v.2.2.2.2.2.2.2.2.2.1, v.2.2.2.2.2.2.2.2.2.2.1, v.2.2.2.2.2.2.2.2.2.2.2.1, v.2.2.2.2.2.2.2.2.2.2.2.2.1, v.2.2.2.2.2.2.2.2.2.2.2.2.2)
def xUB (v : XS) (f : Nat → Int32) : XS := (v.1, f, v.2.2.1, v.2.2.2.1, v.2.2.2.2.1, v.2.2.2.2.2.1, v.2.2.2.2.2.2.1, v.2.2.2.2.2.2.2.1, v.2.2.2.2.2.2.2.2.1, v.2.2.2.2.2.2.2.2.2.1, v.2.2.2.2.2.2.2.2.2.2.1, v.2.2.2.2.2.2.2.2.2.2.2.1, v.2.2.2.2.2.2.2.2.2.2.2.2.1, v.2.2.2.2.2.2.2.2.2.2.2.2.2)
def xUC0 (v : XS) (f : Nat → Int32) : XS := (v.1, v.2.1, f, v.2.2.2.1, v.2.2.2.2.1, v.2.2.2.2.2.1, v.2.2.2.2.2.2.1, v.2.2.2.2.2.2.2.1, v.2.2.2.2.2.2.2.2.1, v.2.2.2.2.2.2.2.2.2.1, v.2.2.2.2.2.2.2.2.2.2.1, v.2.2.2.2.2.2.2.2.2.2.2.1, v.2.2.2.2.2.2.2.2.2.2.2.2.1, v.2.2.2.2.2.2.2.2.2.2.2.2.2)
def xUC1 (v : XS) (f : Nat → Int32) : XS := (v.1, v.2.1, v.2.2.1, f, v.2.2.2.2.1, v.2.2.2.2.2.1, v.2.2.2.2.2.2.1, v.2.2.2.2.2.2.2.1, v.2.2.2.2.2.2.2.2.1, v.2.2.2.2.2.2.2.2.2.1, v.2.2.2.2.2.2.2.2.2.2.1, v.2.2.2.2.2.2.2.2.2.2.2.1, v.2.2.2.2.2.2.2.2.2.2.2.2.1, v.2.2.2.2.2.2.2.2.2.2.2.2.2)
def xUC2 (v : XS) (f : Nat → Int32) : XS := (v.1, v.2.1, v.2.2.1, v.2.2.2.1, f, v.2.2.2.2.2.1, v.2.2.2.2.2.2.1, v.2.2.2.2.2.2.2.1, v.2.2.2.2.2.2.2.2.1, v.2.2.2.2.2.2.2.2.2.1, v.2.2.2.2.2.2.2.2.2.2.1, v.2.2.2.2.2.2.2.2.2.2.2.1, v.2.2.2.2.2.2.2.2.2.2.2.2.1, v.2.2.2.2.2.2.2.2.2.2.2.2.2)
def xUR (v : XS) (f : Nat → Int32) : XS := (v.1, v.2.1, v.2.2.1, v.2.2.2.1, v.2.2.2.2.1, f, v.2.2.2.2.2.2.1, v.2.2.2.2.2.2.2.1, v.2.2.2.2.2.2.2.2.1, v.2.2.2.2.2.2.2.2.2.1, v.2.2.2.2.2.2.2.2.2.2.1, v.2.2.2.2.2.2.2.2.2.2.2.1, v.2.2.2.2.2.2.2.2.2.2.2.2.1, v.2.2.2.2.2.2.2.2.2.2.2.2.2)
def xUN (v : XS) (f : Nat → Int32) : XS := (v.1, v.2.1, v.2.2.1, v.2.2.2.1, v.2.2.2.2.1, v.2.2.2.2.2.1, f, v.2.2.2.2.2.2.2.1, v.2.2.2.2.2.2.2.2.1, v.2.2.2.2.2.2.2.2.2.1, v.2.2.2.2.2.2.2.2.2.2.1, v.2.2.2.2.2.2.2.2.2.2.2.1, v.2.2.2.2.2.2.2.2.2.2.2.2.1, v.2.2.2.2.2.2.2.2.2.2.2.2.2)
def xUc (v : XS) (f : Int32) : XS := (v.1, v.2.1, v.2.2.1, v.2.2.2.1, v.2.2.2.2.1, v.2.2.2.2.2.1, v.2.2.2.2.2.2.1, f, v.2.2.2.2.2.2.2.2.1, v.2.2.2.2.2.2.2.2.2.1, v.2.2.2.2.2.2.2.2.2.2.1, v.2.2.2.2.2.2.2.2.2.2.2.1, v.2.2.2.2.2.2.2.2.2.2.2.2.1, v.2.2.2.2.2.2.2.2.2.2.2.2.2)
def xUp (v : XS) (f : Int32) : XS := (v.1, v.2.1, v.2.2.1, v.2.2.2.1, v.2.2.2.2.1, v.2.2.2.2.2.1, v.2.2.2.2.2.2.1, v.2.2.2.2.2.2.2.1, f, v.2.2.2.2.2.2.2.2.2.1, v.2.2.2.2.2.2.2.2.2.2.1, v.2.2.2.2.2.2.2.2.2.2.2.1, v.2.2.2.2.2.2.2.2.2.2.2.2.1, v.2.2.2.2.2.2.2.2.2.2.2.2.2)
def xUm (v : XS) (f : Int32) : XS := (v.1, v.2.1, v.2.2.1, v.2.2.2.1, v.2.2.2.2.1, v.2.2.2.2.2.1, v.2.2.2.2.2.2.1, v.2.2.2.2.2.2.2.1, v.2.2.2.2.2.2.2.2.1, f, v.2.2.2.2.2.2.2.2.2.2.1, v.2.2.2.2.2.2.2.2.2.2.2.1, v.2.2.2.2.2.2.2.2.2.2.2.2.1, v.2.2.2.2.2.2.2.2.2.2.2.2.2)
def xUt (v : XS) (f : Int32) : XS := (v.1, v.2.1, v.2.2.1, v.2.2.2.1, v.2.2.2.2.1, v.2.2.2.2.2.1, v.2.2.2.2.2.2.1, v.2.2.2.2.2.2.2.1, v.2.2.2.2.2.2.2.2.1, v.2.2.2.2.2.2.2.2.2.1, f, v.2.2.2.2.2.2.2.2.2.2.2.1, v.2.2.2.2.2.2.2.2.2.2.2.2.1, v.2.2.2.2.2.2.2.2.2.2.2.2.2)
def xUq (v : XS) (f : Int32) : XS := (v.1, v.2.1, v.2.2.1, v.2.2.2.1, v.2.2.2.2.1, v.2.2.2.2.2.1, v.2.2.2.2.2.2.1, v.2.2.2.2.2.2.2.1, v.2.2.2.2.2.2.2.2.1, v.2.2.2.2.2.2.2.2.2.1, v.2.2.2.2.2.2.2.2.2.2.1, f, v.2.2.2.2.2.2.2.2.2.2.2.2.1, v.2.2.2.2.2.2.2.2.2.2.2.2.2)
def xUk (v : XS) (f : Int32) : XS := (v.1, v.2.1, v.2.2.1, v.2.2.2.1, v.2.2.2.2.1, v.2.2.2.2.2.1, v.2.2.2.2.2.2.1, v.2.2.2.2.2.2.2.1, v.2.2.2.2.2.2.2.2.1, v.2.2.2.2.2.2.2.2.2.1, v.2.2.2.2.2.2.2.2.2.2.1, v.2.2.2.2.2.2.2.2.2.2.2.1, f, v.2.2.2.2.2.2.2.2.2.2.2.2.2)
def xUl (v : XS) (f : Int32) : XS := (v.1, v.2.1, v.2.2.1, v.2.2.2.1, v.2.2.2.2.1, v.2.2.2.2.2.1, v.2.2.2.2.2.2.1, v.2.2.2.2.2.2.2.1, v.2.2.2.2.2.2.2.2.1, v.2.2.2.2.2.2.2.2.2.1, v.2.2.2.2.2.2.2.2.2.2.1, v.2.2.2.2.2.2.2.2.2.2.2.1, v.2.2.2.2.2.2.2.2.2.2.2.2.1, f)
abbrev MS : Type := (Nat → Int32) × (Nat → Int32) × (Nat → Int32) × (Nat → Int32) × (Nat → Int32) × Int32 × Int32 × Int32 × Int32 × Int32 × Int32 × Int32 × Int32
def mO (v : MS) : Nat → Int32 := v.1
def mS (v : MS) : Nat → Int32 := v.2.1
def mH (v : MS) : Nat → Int32 := v.2.2.1
def mF (v : MS) : Nat → Int32 := v.2.2.2.1
def mN (v : MS) : Nat → Int32 := v.2.2.2.2.1
def mp (v : MS) : Int32 := v.2.2.2.2.2.1
def mt (v : MS) : Int32 := v.2.2.2.2.2.2.1
def mq (v : MS) : Int32 := v.2.2.2.2.2.2.2.1
def mk (v : MS) : Int32 := v.2.2.2.2.2.2.2.2.1
def ml (v : MS) : Int32 := v.2.2.2.2.2.2.2.2.2.1
def mm (v : MS) : Int32 := v.2.2.2.2.2.2.2.2.2.2.1
def mc (v : MS) : Int32 := v.2.2.2.2.2.2.2.2.2.2.2.1
def mz (v : MS) : Int32 := v.2.2.2.2.2.2.2.2.2.2.2.2
def mUO (v : MS) (f : Nat → Int32) : MS := (f, v.2.1, v.2.2.1, v.2.2.2.1, v.2.2.2.2.1, v.2.2.2.2.2.1, v.2.2.2.2.2.2.1, v.2.2.2.2.2.2.2.1, v.2.2.2.2.2.2.2.2.1, v.2.2.2.2.2.2.2.2.2.1, v.2.2.2.2.2.2.2.2.2.2.1, v.2.2.2.2.2.2.2.2.2.2.2.1, v.2.2.2.2.2.2.2.2.2.2.2.2)
def mUS (v : MS) (f : Nat → Int32) : MS := (v.1, f, v.2.2.1, v.2.2.2.1, v.2.2.2.2.1, v.2.2.2.2.2.1, v.2.2.2.2.2.2.1, v.2.2.2.2.2.2.2.1, v.2.2.2.2.2.2.2.2.1, v.2.2.2.2.2.2.2.2.2.1, v.2.2.2.2.2.2.2.2.2.2.1, v.2.2.2.2.2.2.2.2.2.2.2.1, v.2.2.2.2.2.2.2.2.2.2.2.2)
def mUH (v : MS) (f : Nat → Int32) : MS := (v.1, v.2.1, f, v.2.2.2.1, v.2.2.2.2.1, v.2.2.2.2.2.1, v.2.2.2.2.2.2.1, v.2.2.2.2.2.2.2.1, v.2.2.2.2.2.2.2.2.1, v.2.2.2.2.2.2.2.2.2.1, v.2.2.2.2.2.2.2.2.2.2.1, v.2.2.2.2.2.2.2.2.2.2.2.1, v.2.2.2.2.2.2.2.2.2.2.2.2)
def mUF (v : MS) (f : Nat → Int32) : MS := (v.1, v.2.1, v.2.2.1, f, v.2.2.2.2.1, v.2.2.2.2.2.1, v.2.2.2.2.2.2.1, v.2.2.2.2.2.2.2.1, v.2.2.2.2.2.2.2.2.1, v.2.2.2.2.2.2.2.2.2.1, v.2.2.2.2.2.2.2.2.2.2.1, v.2.2.2.2.2.2.2.2.2.2.2.1, v.2.2.2.2.2.2.2.2.2.2.2.2)
def mUN (v : MS) (f : Nat → Int32) : MS := (v.1, v.2.1, v.2.2.1, v.2.2.2.1, f, v.2.2.2.2.2.1, v.2.2.2.2.2.2.1, v.2.2.2.2.2.2.2.1, v.2.2.2.2.2.2.2.2.1, v.2.2.2.2.2.2.2.2.2.1, v.2.2.2.2.2.2.2.2.2.2.1, v.2.2.2.2.2.2.2.2.2.2.2.1, v.2.2.2.2.2.2.2.2.2.2.2.2)
def mUp (v : MS) (f : Int32) : MS := (v.1, v.2.1, v.2.2.1, v.2.2.2.1, v.2.2.2.2.1, f, v.2.2.2.2.2.2.1, v.2.2.2.2.2.2.2.1, v.2.2.2.2.2.2.2.2.1, v.2.2.2.2.2.2.2.2.2.1, v.2.2.2.2.2.2.2.2.2.2.1, v.2.2.2.2.2.2.2.2.2.2.2.1, v.2.2.2.2.2.2.2.2.2.2.2.2)
def mUt (v : MS) (f : Int32) : MS := (v.1, v.2.1, v.2.2.1, v.2.2.2.1, v.2.2.2.2.1, v.2.2.2.2.2.1, f, v.2.2.2.2.2.2.2.1, v.2.2.2.2.2.2.2.2.1, v.2.2.2.2.2.2.2.2.2.1, v.2.2.2.2.2.2.2.2.2.2.1, v.2.2.2.2.2.2.2.2.2.2.2.1, v.2.2.2.2.2.2.2.2.2.2.2.2)
def mUq (v : MS) (f : Int32) : MS := (v.1, v.2.1, v.2.2.1, v.2.2.2.1, v.2.2.2.2.1, v.2.2.2.2.2.1, v.2.2.2.2.2.2.1, f, v.2.2.2.2.2.2.2.2.1, v.2.2.2.2.2.2.2.2.2.1, v.2.2.2.2.2.2.2.2.2.2.1, v.2.2.2.2.2.2.2.2.2.2.2.1, v.2.2.2.2.2.2.2.2.2.2.2.2)
def mUk (v : MS) (f : Int32) : MS := (v.1, v.2.1, v.2.2.1, v.2.2.2.1, v.2.2.2.2.1, v.2.2.2.2.2.1, v.2.2.2.2.2.2.1, v.2.2.2.2.2.2.2.1, f, v.2.2.2.2.2.2.2.2.2.1, v.2.2.2.2.2.2.2.2.2.2.1, v.2.2.2.2.2.2.2.2.2.2.2.1, v.2.2.2.2.2.2.2.2.2.2.2.2)
def mUl (v : MS) (f : Int32) : MS := (v.1, v.2.1, v.2.2.1, v.2.2.2.1, v.2.2.2.2.1, v.2.2.2.2.2.1, v.2.2.2.2.2.2.1, v.2.2.2.2.2.2.2.1, v.2.2.2.2.2.2.2.2.1, f, v.2.2.2.2.2.2.2.2.2.2.1, v.2.2.2.2.2.2.2.2.2.2.2.1, v.2.2.2.2.2.2.2.2.2.2.2.2)
def mUm (v : MS) (f : Int32) : MS := (v.1, v.2.1, v.2.2.1, v.2.2.2.1, v.2.2.2.2.1, v.2.2.2.2.2.1, v.2.2.2.2.2.2.1, v.2.2.2.2.2.2.2.1, v.2.2.2.2.2.2.2.2.1, v.2.2.2.2.2.2.2.2.2.1, f, v.2.2.2.2.2.2.2.2.2.2.2.1, v.2.2.2.2.2.2.2.2.2.2.2.2)
def mUc (v : MS) (f : Int32) : MS := (v.1, v.2.1, v.2.2.1, v.2.2.2.1, v.2.2.2.2.1, v.2.2.2.2.2.1, v.2.2.2.2.2.2.1, v.2.2.2.2.2.2.2.1, v.2.2.2.2.2.2.2.2.1, v.2.2.2.2.2.2.2.2.2.1, v.2.2.2.2.2.2.2.2.2.2.1, f, v.2.2.2.2.2.2.2.2.2.2.2.2)
def mUz (v : MS) (f : Int32) : MS := (v.1, v.2.1, v.2.2.1, v.2.2.2.1, v.2.2.2.2.1, v.2.2.2.2.2.1, v.2.2.2.2.2.2.1, v.2.2.2.2.2.2.2.1, v.2.2.2.2.2.2.2.2.1, v.2.2.2.2.2.2.2.2.2.1, v.2.2.2.2.2.2.2.2.2.2.1, v.2.2.2.2.2.2.2.2.2.2.2.1, f)
def ktys (ca : Nat → ClassId) : List (ClassId × FieldType) := [(ca 0, .int), (ca 1, .boolean), (ca 2, .array .int), (ca 3, .long)]
def xcols (ad : Nat → Nat) : Nat → Option Nat := fun i => if i < 3 then some (ad (4 + i)) else none
def xw (ad : Nat → Nat) (ca : Nat → ClassId) (v : XS) : va_W := [(ad 0, .inr (0, [.ref (ad 1), .ref (ad 2), .ref (ad 3), .ref (ad 7), .ref (ad 8), .int (xc v), .int (xp v), .int (xm v), .int (xt v), .int (xq v), .int (xk v), .int (xl v)])), (ad 1, .inl (ca 0, 40, .inl (xA v))), (ad 2, .inl (ca 0, 40, .inl (xB v))), (ad 3, .inl (ca 2, 3, .inr (.inr (.inr (.inr (xcols ad)))))), (ad 4, .inl (ca 0, 40, .inl (xC0 v))), (ad 5, .inl (ca 0, 40, .inl (xC1 v))), (ad 6, .inl (ca 0, 40, .inl (xC2 v))), (ad 7, .inl (ca 1, 40, .inl (xR v))), (ad 8, .inl (ca 0, 1024, .inl (xN v)))]
def mw (ad : Nat → Nat) (ca : Nat → ClassId) (v : MS) : va_W := [(ad 0, .inr (1, [.ref (ad 1), .ref (ad 2), .ref (ad 3), .ref (ad 4), .int (mp v), .int (mt v), .int (mq v), .int (mk v), .int (ml v), .int (mm v), .int (mc v), .ref (ad 5), .int (mz v)])), (ad 1, .inl (ca 0, 40, .inl (mO v))), (ad 2, .inl (ca 0, 120, .inl (mS v))), (ad 3, .inl (ca 1, 40, .inl (mH v))), (ad 4, .inl (ca 1, 40, .inl (mF v))), (ad 5, .inl (ca 0, 2000, .inl (mN v)))]
/-- what a body may use at every row: the machine, the code, the tables' words, the classes -/
def KC (p : Program) (c : Code) (cc : ByteArray) (s : State) (args : Array Value) (m : MethodId) (own : String) (D : va_G) (ca : Nat → ClassId) : Prop :=
  p.tables.exec = Jvm.exec ∧ c.code = cc ∧ s.vm.findClass own = some m.cls ∧ (∀ w ∈ WL, w.before args s = true) ∧ va_K D vwCl (ktys ca) s
/-- the world ws in the heap H, that came of H0 -/
def KI (D : va_G) (A : Nat → Prop) (ws : va_W) (H0 H : Heap) (locs : List Loc) : Prop := va_P D vwCl ws H ∧ va_D A ws ∧ va_S A H0 H locs ∧ ∀ q, H0.size ≤ q → A q
section KROWS
variable {p : Program} {l : Launch} {e : Env} {R : Room} {s : State} {m : MethodId} {args : Array Value} {below : List Frame} {meth : Method} {c : Code} {H : Heap} {locs : List Loc} {cells slots : Nat} {Q : State → Prop}
variable {cc : ByteArray} {pc : Nat} {ls : Array Slot} {rest : List Value} {D : va_G} {ca : Nat → ClassId} {A : Nat → Prop} {ad : Nat → Nat}
theorem xg_0 {v : XS} (cx : KC p c cc s args m RX0 D ca) (hI : KI D A (xw ad ca v) s.heap H locs) (hdg : decode cc pc = .ok (.getfield 9, 3)) (k : W p l e R s m args below meth c H locs cells slots Q (F0 m (pc + 3) ls (.ref (ad 1) :: rest))) : W p l e R s m args below meth c H locs cells slots Q (F0 m pc ls (.ref (ad 0) :: rest)) := va_get (D := D) (ci := 0) (v := .ref (ad 1)) (C := RX0) (T := TX0) (N := 12) cx.1 cx.2.1 cx.2.2.2.1 wk_X0 cx.2.2.1 cx.2.2.2.2 hI.1 0 rfl rfl 0 (by decide) (cx.2.2.2.1 _ wk_26) (fun _ h9 => h9) rfl hdg k
theorem xg_1 {v : XS} (cx : KC p c cc s args m RX0 D ca) (hI : KI D A (xw ad ca v) s.heap H locs) (hdg : decode cc pc = .ok (.getfield 13, 3)) (k : W p l e R s m args below meth c H locs cells slots Q (F0 m (pc + 3) ls (.ref (ad 2) :: rest))) : W p l e R s m args below meth c H locs cells slots Q (F0 m pc ls (.ref (ad 0) :: rest)) := va_get (D := D) (ci := 0) (v := .ref (ad 2)) (C := RX0) (T := TX0) (N := 12) cx.1 cx.2.1 cx.2.2.2.1 wk_X0 cx.2.2.1 cx.2.2.2.2 hI.1 0 rfl rfl 1 (by decide) (cx.2.2.2.1 _ wk_27) (fun _ h9 => h9) rfl hdg k
theorem xg_2 {v : XS} (cx : KC p c cc s args m RX0 D ca) (hI : KI D A (xw ad ca v) s.heap H locs) (hdg : decode cc pc = .ok (.getfield 18, 3)) (k : W p l e R s m args below meth c H locs cells slots Q (F0 m (pc + 3) ls (.ref (ad 3) :: rest))) : W p l e R s m args below meth c H locs cells slots Q (F0 m pc ls (.ref (ad 0) :: rest)) := va_get (D := D) (ci := 0) (v := .ref (ad 3)) (C := RX0) (T := TX0) (N := 12) cx.1 cx.2.1 cx.2.2.2.1 wk_X0 cx.2.2.1 cx.2.2.2.2 hI.1 0 rfl rfl 2 (by decide) (cx.2.2.2.1 _ wk_28) (fun _ h9 => h9) rfl hdg k
theorem xg_3 {v : XS} (cx : KC p c cc s args m RX0 D ca) (hI : KI D A (xw ad ca v) s.heap H locs) (hdg : decode cc pc = .ok (.getfield 21, 3)) (k : W p l e R s m args below meth c H locs cells slots Q (F0 m (pc + 3) ls (.ref (ad 7) :: rest))) : W p l e R s m args below meth c H locs cells slots Q (F0 m pc ls (.ref (ad 0) :: rest)) := va_get (D := D) (ci := 0) (v := .ref (ad 7)) (C := RX0) (T := TX0) (N := 12) cx.1 cx.2.1 cx.2.2.2.1 wk_X0 cx.2.2.1 cx.2.2.2.2 hI.1 0 rfl rfl 3 (by decide) (cx.2.2.2.1 _ wk_29) (fun _ h9 => h9) rfl hdg k
theorem xg_4 {v : XS} (cx : KC p c cc s args m RX0 D ca) (hI : KI D A (xw ad ca v) s.heap H locs) (hdg : decode cc pc = .ok (.getfield 25, 3)) (k : W p l e R s m args below meth c H locs cells slots Q (F0 m (pc + 3) ls (.ref (ad 8) :: rest))) : W p l e R s m args below meth c H locs cells slots Q (F0 m pc ls (.ref (ad 0) :: rest)) := va_get (D := D) (ci := 0) (v := .ref (ad 8)) (C := RX0) (T := TX0) (N := 12) cx.1 cx.2.1 cx.2.2.2.1 wk_X0 cx.2.2.1 cx.2.2.2.2 hI.1 0 rfl rfl 4 (by decide) (cx.2.2.2.1 _ wk_30) (fun _ h9 => h9) rfl hdg k
theorem xg_5 {v : XS} (cx : KC p c cc s args m RX0 D ca) (hI : KI D A (xw ad ca v) s.heap H locs) (hdg : decode cc pc = .ok (.getfield 134, 3)) (k : W p l e R s m args below meth c H locs cells slots Q (F0 m (pc + 3) ls (.int (xc v) :: rest))) : W p l e R s m args below meth c H locs cells slots Q (F0 m pc ls (.ref (ad 0) :: rest)) := va_get (D := D) (ci := 0) (v := .int (xc v)) (C := RX0) (T := TX0) (N := 12) cx.1 cx.2.1 cx.2.2.2.1 wk_X0 cx.2.2.1 cx.2.2.2.2 hI.1 0 rfl rfl 5 (by decide) (cx.2.2.2.1 _ wk_31) (fun _ h9 => h9) rfl hdg k
theorem xp_5 {v : XS} (cx : KC p c cc s args m RX0 D ca) (hI : KI D A (xw ad ca v) s.heap H locs) {y : Int32} (hdg : decode cc pc = .ok (.putfield 134, 3)) (k : ∀ (H : Heap) (locs : List Loc), KI D A (xw ad ca (xUc v y)) s.heap H locs → W p l e R s m args below meth c H locs cells slots Q (F0 m (pc + 3) ls rest)) : W p l e R s m args below meth c H locs cells slots Q (F0 m pc ls (.int y :: .ref (ad 0) :: rest)) := va_put (D := D) (ci := 0) (v := .int y) (ty := .int) (C := RX0) (T := TX0) (N := 12) cx.1 cx.2.1 cx.2.2.2.1 wk_X0 tyX0 tyX0_ok nmX0 cx.2.2.1 cx.2.2.2.2 hI.1 hI.2.1 hI.2.2.1 0 rfl rfl 5 (by decide) (cx.2.2.2.1 _ wk_31) (fun _ h9 => h9) rfl (by decide +kernel) rfl rfl (Nat.le_of_ble_eq_true rfl) hdg (fun H1 locs1 hP hD hS => k H1 locs1 ⟨hP, hD, hS, hI.2.2.2⟩)
theorem xg_6 {v : XS} (cx : KC p c cc s args m RX0 D ca) (hI : KI D A (xw ad ca v) s.heap H locs) (hdg : decode cc pc = .ok (.getfield 34, 3)) (k : W p l e R s m args below meth c H locs cells slots Q (F0 m (pc + 3) ls (.int (xp v) :: rest))) : W p l e R s m args below meth c H locs cells slots Q (F0 m pc ls (.ref (ad 0) :: rest)) := va_get (D := D) (ci := 0) (v := .int (xp v)) (C := RX0) (T := TX0) (N := 12) cx.1 cx.2.1 cx.2.2.2.1 wk_X0 cx.2.2.1 cx.2.2.2.2 hI.1 0 rfl rfl 6 (by decide) (cx.2.2.2.1 _ wk_32) (fun _ h9 => h9) rfl hdg k
theorem xp_6 {v : XS} (cx : KC p c cc s args m RX0 D ca) (hI : KI D A (xw ad ca v) s.heap H locs) {y : Int32} (hdg : decode cc pc = .ok (.putfield 34, 3)) (k : ∀ (H : Heap) (locs : List Loc), KI D A (xw ad ca (xUp v y)) s.heap H locs → W p l e R s m args below meth c H locs cells slots Q (F0 m (pc + 3) ls rest)) : W p l e R s m args below meth c H locs cells slots Q (F0 m pc ls (.int y :: .ref (ad 0) :: rest)) := va_put (D := D) (ci := 0) (v := .int y) (ty := .int) (C := RX0) (T := TX0) (N := 12) cx.1 cx.2.1 cx.2.2.2.1 wk_X0 tyX0 tyX0_ok nmX0 cx.2.2.1 cx.2.2.2.2 hI.1 hI.2.1 hI.2.2.1 0 rfl rfl 6 (by decide) (cx.2.2.2.1 _ wk_32) (fun _ h9 => h9) rfl (by decide +kernel) rfl rfl (Nat.le_of_ble_eq_true rfl) hdg (fun H1 locs1 hP hD hS => k H1 locs1 ⟨hP, hD, hS, hI.2.2.2⟩)
theorem xg_7 {v : XS} (cx : KC p c cc s args m RX0 D ca) (hI : KI D A (xw ad ca v) s.heap H locs) (hdg : decode cc pc = .ok (.getfield 121, 3)) (k : W p l e R s m args below meth c H locs cells slots Q (F0 m (pc + 3) ls (.int (xm v) :: rest))) : W p l e R s m args below meth c H locs cells slots Q (F0 m pc ls (.ref (ad 0) :: rest)) := va_get (D := D) (ci := 0) (v := .int (xm v)) (C := RX0) (T := TX0) (N := 12) cx.1 cx.2.1 cx.2.2.2.1 wk_X0 cx.2.2.1 cx.2.2.2.2 hI.1 0 rfl rfl 7 (by decide) (cx.2.2.2.1 _ wk_33) (fun _ h9 => h9) rfl hdg k
theorem xp_7 {v : XS} (cx : KC p c cc s args m RX0 D ca) (hI : KI D A (xw ad ca v) s.heap H locs) {y : Int32} (hdg : decode cc pc = .ok (.putfield 121, 3)) (k : ∀ (H : Heap) (locs : List Loc), KI D A (xw ad ca (xUm v y)) s.heap H locs → W p l e R s m args below meth c H locs cells slots Q (F0 m (pc + 3) ls rest)) : W p l e R s m args below meth c H locs cells slots Q (F0 m pc ls (.int y :: .ref (ad 0) :: rest)) := va_put (D := D) (ci := 0) (v := .int y) (ty := .int) (C := RX0) (T := TX0) (N := 12) cx.1 cx.2.1 cx.2.2.2.1 wk_X0 tyX0 tyX0_ok nmX0 cx.2.2.1 cx.2.2.2.2 hI.1 hI.2.1 hI.2.2.1 0 rfl rfl 7 (by decide) (cx.2.2.2.1 _ wk_33) (fun _ h9 => h9) rfl (by decide +kernel) rfl rfl (Nat.le_of_ble_eq_true rfl) hdg (fun H1 locs1 hP hD hS => k H1 locs1 ⟨hP, hD, hS, hI.2.2.2⟩)
theorem xg_8 {v : XS} (cx : KC p c cc s args m RX0 D ca) (hI : KI D A (xw ad ca v) s.heap H locs) (hdg : decode cc pc = .ok (.getfield 115, 3)) (k : W p l e R s m args below meth c H locs cells slots Q (F0 m (pc + 3) ls (.int (xt v) :: rest))) : W p l e R s m args below meth c H locs cells slots Q (F0 m pc ls (.ref (ad 0) :: rest)) := va_get (D := D) (ci := 0) (v := .int (xt v)) (C := RX0) (T := TX0) (N := 12) cx.1 cx.2.1 cx.2.2.2.1 wk_X0 cx.2.2.1 cx.2.2.2.2 hI.1 0 rfl rfl 8 (by decide) (cx.2.2.2.1 _ wk_34) (fun _ h9 => h9) rfl hdg k
theorem xp_8 {v : XS} (cx : KC p c cc s args m RX0 D ca) (hI : KI D A (xw ad ca v) s.heap H locs) {y : Int32} (hdg : decode cc pc = .ok (.putfield 115, 3)) (k : ∀ (H : Heap) (locs : List Loc), KI D A (xw ad ca (xUt v y)) s.heap H locs → W p l e R s m args below meth c H locs cells slots Q (F0 m (pc + 3) ls rest)) : W p l e R s m args below meth c H locs cells slots Q (F0 m pc ls (.int y :: .ref (ad 0) :: rest)) := va_put (D := D) (ci := 0) (v := .int y) (ty := .int) (C := RX0) (T := TX0) (N := 12) cx.1 cx.2.1 cx.2.2.2.1 wk_X0 tyX0 tyX0_ok nmX0 cx.2.2.1 cx.2.2.2.2 hI.1 hI.2.1 hI.2.2.1 0 rfl rfl 8 (by decide) (cx.2.2.2.1 _ wk_34) (fun _ h9 => h9) rfl (by decide +kernel) rfl rfl (Nat.le_of_ble_eq_true rfl) hdg (fun H1 locs1 hP hD hS => k H1 locs1 ⟨hP, hD, hS, hI.2.2.2⟩)
theorem xg_9 {v : XS} (cx : KC p c cc s args m RX0 D ca) (hI : KI D A (xw ad ca v) s.heap H locs) (hdg : decode cc pc = .ok (.getfield 118, 3)) (k : W p l e R s m args below meth c H locs cells slots Q (F0 m (pc + 3) ls (.int (xq v) :: rest))) : W p l e R s m args below meth c H locs cells slots Q (F0 m pc ls (.ref (ad 0) :: rest)) := va_get (D := D) (ci := 0) (v := .int (xq v)) (C := RX0) (T := TX0) (N := 12) cx.1 cx.2.1 cx.2.2.2.1 wk_X0 cx.2.2.1 cx.2.2.2.2 hI.1 0 rfl rfl 9 (by decide) (cx.2.2.2.1 _ wk_35) (fun _ h9 => h9) rfl hdg k
theorem xp_9 {v : XS} (cx : KC p c cc s args m RX0 D ca) (hI : KI D A (xw ad ca v) s.heap H locs) {y : Int32} (hdg : decode cc pc = .ok (.putfield 118, 3)) (k : ∀ (H : Heap) (locs : List Loc), KI D A (xw ad ca (xUq v y)) s.heap H locs → W p l e R s m args below meth c H locs cells slots Q (F0 m (pc + 3) ls rest)) : W p l e R s m args below meth c H locs cells slots Q (F0 m pc ls (.int y :: .ref (ad 0) :: rest)) := va_put (D := D) (ci := 0) (v := .int y) (ty := .int) (C := RX0) (T := TX0) (N := 12) cx.1 cx.2.1 cx.2.2.2.1 wk_X0 tyX0 tyX0_ok nmX0 cx.2.2.1 cx.2.2.2.2 hI.1 hI.2.1 hI.2.2.1 0 rfl rfl 9 (by decide) (cx.2.2.2.1 _ wk_35) (fun _ h9 => h9) rfl (by decide +kernel) rfl rfl (Nat.le_of_ble_eq_true rfl) hdg (fun H1 locs1 hP hD hS => k H1 locs1 ⟨hP, hD, hS, hI.2.2.2⟩)
theorem xg_10 {v : XS} (cx : KC p c cc s args m RX0 D ca) (hI : KI D A (xw ad ca v) s.heap H locs) (hdg : decode cc pc = .ok (.getfield 38, 3)) (k : W p l e R s m args below meth c H locs cells slots Q (F0 m (pc + 3) ls (.int (xk v) :: rest))) : W p l e R s m args below meth c H locs cells slots Q (F0 m pc ls (.ref (ad 0) :: rest)) := va_get (D := D) (ci := 0) (v := .int (xk v)) (C := RX0) (T := TX0) (N := 12) cx.1 cx.2.1 cx.2.2.2.1 wk_X0 cx.2.2.1 cx.2.2.2.2 hI.1 0 rfl rfl 10 (by decide) (cx.2.2.2.1 _ wk_36) (fun _ h9 => h9) rfl hdg k
theorem xp_10 {v : XS} (cx : KC p c cc s args m RX0 D ca) (hI : KI D A (xw ad ca v) s.heap H locs) {y : Int32} (hdg : decode cc pc = .ok (.putfield 38, 3)) (k : ∀ (H : Heap) (locs : List Loc), KI D A (xw ad ca (xUk v y)) s.heap H locs → W p l e R s m args below meth c H locs cells slots Q (F0 m (pc + 3) ls rest)) : W p l e R s m args below meth c H locs cells slots Q (F0 m pc ls (.int y :: .ref (ad 0) :: rest)) := va_put (D := D) (ci := 0) (v := .int y) (ty := .int) (C := RX0) (T := TX0) (N := 12) cx.1 cx.2.1 cx.2.2.2.1 wk_X0 tyX0 tyX0_ok nmX0 cx.2.2.1 cx.2.2.2.2 hI.1 hI.2.1 hI.2.2.1 0 rfl rfl 10 (by decide) (cx.2.2.2.1 _ wk_36) (fun _ h9 => h9) rfl (by decide +kernel) rfl rfl (Nat.le_of_ble_eq_true rfl) hdg (fun H1 locs1 hP hD hS => k H1 locs1 ⟨hP, hD, hS, hI.2.2.2⟩)
theorem xg_11 {v : XS} (cx : KC p c cc s args m RX0 D ca) (hI : KI D A (xw ad ca v) s.heap H locs) (hdg : decode cc pc = .ok (.getfield 41, 3)) (k : W p l e R s m args below meth c H locs cells slots Q (F0 m (pc + 3) ls (.int (xl v) :: rest))) : W p l e R s m args below meth c H locs cells slots Q (F0 m pc ls (.ref (ad 0) :: rest)) := va_get (D := D) (ci := 0) (v := .int (xl v)) (C := RX0) (T := TX0) (N := 12) cx.1 cx.2.1 cx.2.2.2.1 wk_X0 cx.2.2.1 cx.2.2.2.2 hI.1 0 rfl rfl 11 (by decide) (cx.2.2.2.1 _ wk_37) (fun _ h9 => h9) rfl hdg k
theorem xp_11 {v : XS} (cx : KC p c cc s args m RX0 D ca) (hI : KI D A (xw ad ca v) s.heap H locs) {y : Int32} (hdg : decode cc pc = .ok (.putfield 41, 3)) (k : ∀ (H : Heap) (locs : List Loc), KI D A (xw ad ca (xUl v y)) s.heap H locs → W p l e R s m args below meth c H locs cells slots Q (F0 m (pc + 3) ls rest)) : W p l e R s m args below meth c H locs cells slots Q (F0 m pc ls (.int y :: .ref (ad 0) :: rest)) := va_put (D := D) (ci := 0) (v := .int y) (ty := .int) (C := RX0) (T := TX0) (N := 12) cx.1 cx.2.1 cx.2.2.2.1 wk_X0 tyX0 tyX0_ok nmX0 cx.2.2.1 cx.2.2.2.2 hI.1 hI.2.1 hI.2.2.1 0 rfl rfl 11 (by decide) (cx.2.2.2.1 _ wk_37) (fun _ h9 => h9) rfl (by decide +kernel) rfl rfl (Nat.le_of_ble_eq_true rfl) hdg (fun H1 locs1 hP hD hS => k H1 locs1 ⟨hP, hD, hS, hI.2.2.2⟩)
theorem xa_A {v : XS} (cx : KC p c cc s args m RX0 D ca) (hI : KI D A (xw ad ca v) s.heap H locs) {i : Int32} (hin : vp_in i 40) (hdg : decode cc pc = .ok (.iaload, 1)) (k : W p l e R s m args below meth c H locs cells slots Q (F0 m (pc + 1) ls (.int (xA v i.toNatClampNeg) :: rest))) : W p l e R s m args below meth c H locs cells slots Q (F0 m pc ls (.int i :: .ref (ad 1) :: rest)) := va_iald cx.1 cx.2.1 cx.2.2.2.2 hI.1 1 0 rfl rfl hin hdg k
theorem xs_A {v : XS} (cx : KC p c cc s args m RX0 D ca) (hI : KI D A (xw ad ca v) s.heap H locs) {i y : Int32} (hin : vp_in i 40) (hdg : decode cc pc = .ok (.iastore, 1)) (k : ∀ (H : Heap) (locs : List Loc), KI D A (xw ad ca (xUA v (upd (xA v) i.toNatClampNeg y))) s.heap H locs → W p l e R s m args below meth c H locs cells slots Q (F0 m (pc + 1) ls rest)) : W p l e R s m args below meth c H locs cells slots Q (F0 m pc ls (.int y :: .int i :: .ref (ad 1) :: rest)) := va_iast cx.1 cx.2.1 cx.2.2.2.2 hI.1 hI.2.1 hI.2.2.1 1 0 rfl rfl hin hdg (fun H1 locs1 hP hD hS => k H1 locs1 ⟨hP, hD, hS, hI.2.2.2⟩)
theorem xa_B {v : XS} (cx : KC p c cc s args m RX0 D ca) (hI : KI D A (xw ad ca v) s.heap H locs) {i : Int32} (hin : vp_in i 40) (hdg : decode cc pc = .ok (.iaload, 1)) (k : W p l e R s m args below meth c H locs cells slots Q (F0 m (pc + 1) ls (.int (xB v i.toNatClampNeg) :: rest))) : W p l e R s m args below meth c H locs cells slots Q (F0 m pc ls (.int i :: .ref (ad 2) :: rest)) := va_iald cx.1 cx.2.1 cx.2.2.2.2 hI.1 2 0 rfl rfl hin hdg k
theorem xs_B {v : XS} (cx : KC p c cc s args m RX0 D ca) (hI : KI D A (xw ad ca v) s.heap H locs) {i y : Int32} (hin : vp_in i 40) (hdg : decode cc pc = .ok (.iastore, 1)) (k : ∀ (H : Heap) (locs : List Loc), KI D A (xw ad ca (xUB v (upd (xB v) i.toNatClampNeg y))) s.heap H locs → W p l e R s m args below meth c H locs cells slots Q (F0 m (pc + 1) ls rest)) : W p l e R s m args below meth c H locs cells slots Q (F0 m pc ls (.int y :: .int i :: .ref (ad 2) :: rest)) := va_iast cx.1 cx.2.1 cx.2.2.2.2 hI.1 hI.2.1 hI.2.2.1 2 0 rfl rfl hin hdg (fun H1 locs1 hP hD hS => k H1 locs1 ⟨hP, hD, hS, hI.2.2.2⟩)
theorem xa_C0 {v : XS} (cx : KC p c cc s args m RX0 D ca) (hI : KI D A (xw ad ca v) s.heap H locs) {i : Int32} (hin : vp_in i 40) (hdg : decode cc pc = .ok (.iaload, 1)) (k : W p l e R s m args below meth c H locs cells slots Q (F0 m (pc + 1) ls (.int (xC0 v i.toNatClampNeg) :: rest))) : W p l e R s m args below meth c H locs cells slots Q (F0 m pc ls (.int i :: .ref (ad 4) :: rest)) := va_iald cx.1 cx.2.1 cx.2.2.2.2 hI.1 4 0 rfl rfl hin hdg k
theorem xs_C0 {v : XS} (cx : KC p c cc s args m RX0 D ca) (hI : KI D A (xw ad ca v) s.heap H locs) {i y : Int32} (hin : vp_in i 40) (hdg : decode cc pc = .ok (.iastore, 1)) (k : ∀ (H : Heap) (locs : List Loc), KI D A (xw ad ca (xUC0 v (upd (xC0 v) i.toNatClampNeg y))) s.heap H locs → W p l e R s m args below meth c H locs cells slots Q (F0 m (pc + 1) ls rest)) : W p l e R s m args below meth c H locs cells slots Q (F0 m pc ls (.int y :: .int i :: .ref (ad 4) :: rest)) := va_iast cx.1 cx.2.1 cx.2.2.2.2 hI.1 hI.2.1 hI.2.2.1 4 0 rfl rfl hin hdg (fun H1 locs1 hP hD hS => k H1 locs1 ⟨hP, hD, hS, hI.2.2.2⟩)
theorem xa_C1 {v : XS} (cx : KC p c cc s args m RX0 D ca) (hI : KI D A (xw ad ca v) s.heap H locs) {i : Int32} (hin : vp_in i 40) (hdg : decode cc pc = .ok (.iaload, 1)) (k : W p l e R s m args below meth c H locs cells slots Q (F0 m (pc + 1) ls (.int (xC1 v i.toNatClampNeg) :: rest))) : W p l e R s m args below meth c H locs cells slots Q (F0 m pc ls (.int i :: .ref (ad 5) :: rest)) := va_iald cx.1 cx.2.1 cx.2.2.2.2 hI.1 5 0 rfl rfl hin hdg k
theorem xs_C1 {v : XS} (cx : KC p c cc s args m RX0 D ca) (hI : KI D A (xw ad ca v) s.heap H locs) {i y : Int32} (hin : vp_in i 40) (hdg : decode cc pc = .ok (.iastore, 1)) (k : ∀ (H : Heap) (locs : List Loc), KI D A (xw ad ca (xUC1 v (upd (xC1 v) i.toNatClampNeg y))) s.heap H locs → W p l e R s m args below meth c H locs cells slots Q (F0 m (pc + 1) ls rest)) : W p l e R s m args below meth c H locs cells slots Q (F0 m pc ls (.int y :: .int i :: .ref (ad 5) :: rest)) := va_iast cx.1 cx.2.1 cx.2.2.2.2 hI.1 hI.2.1 hI.2.2.1 5 0 rfl rfl hin hdg (fun H1 locs1 hP hD hS => k H1 locs1 ⟨hP, hD, hS, hI.2.2.2⟩)
theorem xa_C2 {v : XS} (cx : KC p c cc s args m RX0 D ca) (hI : KI D A (xw ad ca v) s.heap H locs) {i : Int32} (hin : vp_in i 40) (hdg : decode cc pc = .ok (.iaload, 1)) (k : W p l e R s m args below meth c H locs cells slots Q (F0 m (pc + 1) ls (.int (xC2 v i.toNatClampNeg) :: rest))) : W p l e R s m args below meth c H locs cells slots Q (F0 m pc ls (.int i :: .ref (ad 6) :: rest)) := va_iald cx.1 cx.2.1 cx.2.2.2.2 hI.1 6 0 rfl rfl hin hdg k
theorem xs_C2 {v : XS} (cx : KC p c cc s args m RX0 D ca) (hI : KI D A (xw ad ca v) s.heap H locs) {i y : Int32} (hin : vp_in i 40) (hdg : decode cc pc = .ok (.iastore, 1)) (k : ∀ (H : Heap) (locs : List Loc), KI D A (xw ad ca (xUC2 v (upd (xC2 v) i.toNatClampNeg y))) s.heap H locs → W p l e R s m args below meth c H locs cells slots Q (F0 m (pc + 1) ls rest)) : W p l e R s m args below meth c H locs cells slots Q (F0 m pc ls (.int y :: .int i :: .ref (ad 6) :: rest)) := va_iast cx.1 cx.2.1 cx.2.2.2.2 hI.1 hI.2.1 hI.2.2.1 6 0 rfl rfl hin hdg (fun H1 locs1 hP hD hS => k H1 locs1 ⟨hP, hD, hS, hI.2.2.2⟩)
theorem xa_R {v : XS} (cx : KC p c cc s args m RX0 D ca) (hI : KI D A (xw ad ca v) s.heap H locs) {i : Int32} (hin : vp_in i 40) (hdg : decode cc pc = .ok (.baload, 1)) (k : W p l e R s m args below meth c H locs cells slots Q (F0 m (pc + 1) ls (.int (xR v i.toNatClampNeg) :: rest))) : W p l e R s m args below meth c H locs cells slots Q (F0 m pc ls (.int i :: .ref (ad 7) :: rest)) := va_zald cx.1 cx.2.1 cx.2.2.2.2 hI.1 7 1 rfl rfl hin hdg k
theorem xs_R {v : XS} (cx : KC p c cc s args m RX0 D ca) (hI : KI D A (xw ad ca v) s.heap H locs) {i y : Int32} (hin : vp_in i 40) (hdg : decode cc pc = .ok (.bastore, 1)) (k : ∀ (H : Heap) (locs : List Loc), KI D A (xw ad ca (xUR v (upd (xR v) i.toNatClampNeg (vp_nar .boolean y)))) s.heap H locs → W p l e R s m args below meth c H locs cells slots Q (F0 m (pc + 1) ls rest)) : W p l e R s m args below meth c H locs cells slots Q (F0 m pc ls (.int y :: .int i :: .ref (ad 7) :: rest)) := va_zast cx.1 cx.2.1 cx.2.2.2.2 hI.1 hI.2.1 hI.2.2.1 7 1 rfl rfl hin hdg (fun H1 locs1 hP hD hS => k H1 locs1 ⟨hP, hD, hS, hI.2.2.2⟩)
theorem xa_N {v : XS} (cx : KC p c cc s args m RX0 D ca) (hI : KI D A (xw ad ca v) s.heap H locs) {i : Int32} (hin : vp_in i 1024) (hdg : decode cc pc = .ok (.iaload, 1)) (k : W p l e R s m args below meth c H locs cells slots Q (F0 m (pc + 1) ls (.int (xN v i.toNatClampNeg) :: rest))) : W p l e R s m args below meth c H locs cells slots Q (F0 m pc ls (.int i :: .ref (ad 8) :: rest)) := va_iald cx.1 cx.2.1 cx.2.2.2.2 hI.1 8 0 rfl rfl hin hdg k
theorem xs_N {v : XS} (cx : KC p c cc s args m RX0 D ca) (hI : KI D A (xw ad ca v) s.heap H locs) {i y : Int32} (hin : vp_in i 1024) (hdg : decode cc pc = .ok (.iastore, 1)) (k : ∀ (H : Heap) (locs : List Loc), KI D A (xw ad ca (xUN v (upd (xN v) i.toNatClampNeg y))) s.heap H locs → W p l e R s m args below meth c H locs cells slots Q (F0 m (pc + 1) ls rest)) : W p l e R s m args below meth c H locs cells slots Q (F0 m pc ls (.int y :: .int i :: .ref (ad 8) :: rest)) := va_iast cx.1 cx.2.1 cx.2.2.2.2 hI.1 hI.2.1 hI.2.2.1 8 0 rfl rfl hin hdg (fun H1 locs1 hP hD hS => k H1 locs1 ⟨hP, hD, hS, hI.2.2.2⟩)
theorem mg_0 {v : MS} (cx : KC p c cc s args m RX1 D ca) (hI : KI D A (mw ad ca v) s.heap H locs) (hdg : decode cc pc = .ok (.getfield 7, 3)) (k : W p l e R s m args below meth c H locs cells slots Q (F0 m (pc + 3) ls (.ref (ad 1) :: rest))) : W p l e R s m args below meth c H locs cells slots Q (F0 m pc ls (.ref (ad 0) :: rest)) := va_get (D := D) (ci := 1) (v := .ref (ad 1)) (C := RX1) (T := TX1) (N := 13) cx.1 cx.2.1 cx.2.2.2.1 wk_X1 cx.2.2.1 cx.2.2.2.2 hI.1 0 rfl rfl 0 (by decide) (cx.2.2.2.1 _ wk_443) (fun _ h9 => h9) rfl hdg k
theorem mg_1 {v : MS} (cx : KC p c cc s args m RX1 D ca) (hI : KI D A (mw ad ca v) s.heap H locs) (hdg : decode cc pc = .ok (.getfield 13, 3)) (k : W p l e R s m args below meth c H locs cells slots Q (F0 m (pc + 3) ls (.ref (ad 2) :: rest))) : W p l e R s m args below meth c H locs cells slots Q (F0 m pc ls (.ref (ad 0) :: rest)) := va_get (D := D) (ci := 1) (v := .ref (ad 2)) (C := RX1) (T := TX1) (N := 13) cx.1 cx.2.1 cx.2.2.2.1 wk_X1 cx.2.2.1 cx.2.2.2.2 hI.1 0 rfl rfl 1 (by decide) (cx.2.2.2.1 _ wk_444) (fun _ h9 => h9) rfl hdg k
theorem mg_2 {v : MS} (cx : KC p c cc s args m RX1 D ca) (hI : KI D A (mw ad ca v) s.heap H locs) (hdg : decode cc pc = .ok (.getfield 16, 3)) (k : W p l e R s m args below meth c H locs cells slots Q (F0 m (pc + 3) ls (.ref (ad 3) :: rest))) : W p l e R s m args below meth c H locs cells slots Q (F0 m pc ls (.ref (ad 0) :: rest)) := va_get (D := D) (ci := 1) (v := .ref (ad 3)) (C := RX1) (T := TX1) (N := 13) cx.1 cx.2.1 cx.2.2.2.1 wk_X1 cx.2.2.1 cx.2.2.2.2 hI.1 0 rfl rfl 2 (by decide) (cx.2.2.2.1 _ wk_445) (fun _ h9 => h9) rfl hdg k
theorem mg_3 {v : MS} (cx : KC p c cc s args m RX1 D ca) (hI : KI D A (mw ad ca v) s.heap H locs) (hdg : decode cc pc = .ok (.getfield 20, 3)) (k : W p l e R s m args below meth c H locs cells slots Q (F0 m (pc + 3) ls (.ref (ad 4) :: rest))) : W p l e R s m args below meth c H locs cells slots Q (F0 m pc ls (.ref (ad 0) :: rest)) := va_get (D := D) (ci := 1) (v := .ref (ad 4)) (C := RX1) (T := TX1) (N := 13) cx.1 cx.2.1 cx.2.2.2.1 wk_X1 cx.2.2.1 cx.2.2.2.2 hI.1 0 rfl rfl 3 (by decide) (cx.2.2.2.1 _ wk_446) (fun _ h9 => h9) rfl hdg k
theorem mg_4 {v : MS} (cx : KC p c cc s args m RX1 D ca) (hI : KI D A (mw ad ca v) s.heap H locs) (hdg : decode cc pc = .ok (.getfield 58, 3)) (k : W p l e R s m args below meth c H locs cells slots Q (F0 m (pc + 3) ls (.int (mp v) :: rest))) : W p l e R s m args below meth c H locs cells slots Q (F0 m pc ls (.ref (ad 0) :: rest)) := va_get (D := D) (ci := 1) (v := .int (mp v)) (C := RX1) (T := TX1) (N := 13) cx.1 cx.2.1 cx.2.2.2.1 wk_X1 cx.2.2.1 cx.2.2.2.2 hI.1 0 rfl rfl 4 (by decide) (cx.2.2.2.1 _ wk_447) (fun _ h9 => h9) rfl hdg k
theorem mp_4 {v : MS} (cx : KC p c cc s args m RX1 D ca) (hI : KI D A (mw ad ca v) s.heap H locs) {y : Int32} (hdg : decode cc pc = .ok (.putfield 58, 3)) (k : ∀ (H : Heap) (locs : List Loc), KI D A (mw ad ca (mUp v y)) s.heap H locs → W p l e R s m args below meth c H locs cells slots Q (F0 m (pc + 3) ls rest)) : W p l e R s m args below meth c H locs cells slots Q (F0 m pc ls (.int y :: .ref (ad 0) :: rest)) := va_put (D := D) (ci := 1) (v := .int y) (ty := .int) (C := RX1) (T := TX1) (N := 13) cx.1 cx.2.1 cx.2.2.2.1 wk_X1 tyX1 tyX1_ok nmX1 cx.2.2.1 cx.2.2.2.2 hI.1 hI.2.1 hI.2.2.1 0 rfl rfl 4 (by decide) (cx.2.2.2.1 _ wk_447) (fun _ h9 => h9) rfl (by decide +kernel) rfl rfl (Nat.le_of_ble_eq_true rfl) hdg (fun H1 locs1 hP hD hS => k H1 locs1 ⟨hP, hD, hS, hI.2.2.2⟩)
theorem mg_5 {v : MS} (cx : KC p c cc s args m RX1 D ca) (hI : KI D A (mw ad ca v) s.heap H locs) (hdg : decode cc pc = .ok (.getfield 40, 3)) (k : W p l e R s m args below meth c H locs cells slots Q (F0 m (pc + 3) ls (.int (mt v) :: rest))) : W p l e R s m args below meth c H locs cells slots Q (F0 m pc ls (.ref (ad 0) :: rest)) := va_get (D := D) (ci := 1) (v := .int (mt v)) (C := RX1) (T := TX1) (N := 13) cx.1 cx.2.1 cx.2.2.2.1 wk_X1 cx.2.2.1 cx.2.2.2.2 hI.1 0 rfl rfl 5 (by decide) (cx.2.2.2.1 _ wk_448) (fun _ h9 => h9) rfl hdg k
theorem mp_5 {v : MS} (cx : KC p c cc s args m RX1 D ca) (hI : KI D A (mw ad ca v) s.heap H locs) {y : Int32} (hdg : decode cc pc = .ok (.putfield 40, 3)) (k : ∀ (H : Heap) (locs : List Loc), KI D A (mw ad ca (mUt v y)) s.heap H locs → W p l e R s m args below meth c H locs cells slots Q (F0 m (pc + 3) ls rest)) : W p l e R s m args below meth c H locs cells slots Q (F0 m pc ls (.int y :: .ref (ad 0) :: rest)) := va_put (D := D) (ci := 1) (v := .int y) (ty := .int) (C := RX1) (T := TX1) (N := 13) cx.1 cx.2.1 cx.2.2.2.1 wk_X1 tyX1 tyX1_ok nmX1 cx.2.2.1 cx.2.2.2.2 hI.1 hI.2.1 hI.2.2.1 0 rfl rfl 5 (by decide) (cx.2.2.2.1 _ wk_448) (fun _ h9 => h9) rfl (by decide +kernel) rfl rfl (Nat.le_of_ble_eq_true rfl) hdg (fun H1 locs1 hP hD hS => k H1 locs1 ⟨hP, hD, hS, hI.2.2.2⟩)
theorem mg_6 {v : MS} (cx : KC p c cc s args m RX1 D ca) (hI : KI D A (mw ad ca v) s.heap H locs) (hdg : decode cc pc = .ok (.getfield 43, 3)) (k : W p l e R s m args below meth c H locs cells slots Q (F0 m (pc + 3) ls (.int (mq v) :: rest))) : W p l e R s m args below meth c H locs cells slots Q (F0 m pc ls (.ref (ad 0) :: rest)) := va_get (D := D) (ci := 1) (v := .int (mq v)) (C := RX1) (T := TX1) (N := 13) cx.1 cx.2.1 cx.2.2.2.1 wk_X1 cx.2.2.1 cx.2.2.2.2 hI.1 0 rfl rfl 6 (by decide) (cx.2.2.2.1 _ wk_449) (fun _ h9 => h9) rfl hdg k
theorem mp_6 {v : MS} (cx : KC p c cc s args m RX1 D ca) (hI : KI D A (mw ad ca v) s.heap H locs) {y : Int32} (hdg : decode cc pc = .ok (.putfield 43, 3)) (k : ∀ (H : Heap) (locs : List Loc), KI D A (mw ad ca (mUq v y)) s.heap H locs → W p l e R s m args below meth c H locs cells slots Q (F0 m (pc + 3) ls rest)) : W p l e R s m args below meth c H locs cells slots Q (F0 m pc ls (.int y :: .ref (ad 0) :: rest)) := va_put (D := D) (ci := 1) (v := .int y) (ty := .int) (C := RX1) (T := TX1) (N := 13) cx.1 cx.2.1 cx.2.2.2.1 wk_X1 tyX1 tyX1_ok nmX1 cx.2.2.1 cx.2.2.2.2 hI.1 hI.2.1 hI.2.2.1 0 rfl rfl 6 (by decide) (cx.2.2.2.1 _ wk_449) (fun _ h9 => h9) rfl (by decide +kernel) rfl rfl (Nat.le_of_ble_eq_true rfl) hdg (fun H1 locs1 hP hD hS => k H1 locs1 ⟨hP, hD, hS, hI.2.2.2⟩)
theorem mg_7 {v : MS} (cx : KC p c cc s args m RX1 D ca) (hI : KI D A (mw ad ca v) s.heap H locs) (hdg : decode cc pc = .ok (.getfield 23, 3)) (k : W p l e R s m args below meth c H locs cells slots Q (F0 m (pc + 3) ls (.int (mk v) :: rest))) : W p l e R s m args below meth c H locs cells slots Q (F0 m pc ls (.ref (ad 0) :: rest)) := va_get (D := D) (ci := 1) (v := .int (mk v)) (C := RX1) (T := TX1) (N := 13) cx.1 cx.2.1 cx.2.2.2.1 wk_X1 cx.2.2.1 cx.2.2.2.2 hI.1 0 rfl rfl 7 (by decide) (cx.2.2.2.1 _ wk_450) (fun _ h9 => h9) rfl hdg k
theorem mp_7 {v : MS} (cx : KC p c cc s args m RX1 D ca) (hI : KI D A (mw ad ca v) s.heap H locs) {y : Int32} (hdg : decode cc pc = .ok (.putfield 23, 3)) (k : ∀ (H : Heap) (locs : List Loc), KI D A (mw ad ca (mUk v y)) s.heap H locs → W p l e R s m args below meth c H locs cells slots Q (F0 m (pc + 3) ls rest)) : W p l e R s m args below meth c H locs cells slots Q (F0 m pc ls (.int y :: .ref (ad 0) :: rest)) := va_put (D := D) (ci := 1) (v := .int y) (ty := .int) (C := RX1) (T := TX1) (N := 13) cx.1 cx.2.1 cx.2.2.2.1 wk_X1 tyX1 tyX1_ok nmX1 cx.2.2.1 cx.2.2.2.2 hI.1 hI.2.1 hI.2.2.1 0 rfl rfl 7 (by decide) (cx.2.2.2.1 _ wk_450) (fun _ h9 => h9) rfl (by decide +kernel) rfl rfl (Nat.le_of_ble_eq_true rfl) hdg (fun H1 locs1 hP hD hS => k H1 locs1 ⟨hP, hD, hS, hI.2.2.2⟩)
theorem mg_8 {v : MS} (cx : KC p c cc s args m RX1 D ca) (hI : KI D A (mw ad ca v) s.heap H locs) (hdg : decode cc pc = .ok (.getfield 27, 3)) (k : W p l e R s m args below meth c H locs cells slots Q (F0 m (pc + 3) ls (.int (ml v) :: rest))) : W p l e R s m args below meth c H locs cells slots Q (F0 m pc ls (.ref (ad 0) :: rest)) := va_get (D := D) (ci := 1) (v := .int (ml v)) (C := RX1) (T := TX1) (N := 13) cx.1 cx.2.1 cx.2.2.2.1 wk_X1 cx.2.2.1 cx.2.2.2.2 hI.1 0 rfl rfl 8 (by decide) (cx.2.2.2.1 _ wk_451) (fun _ h9 => h9) rfl hdg k
theorem mp_8 {v : MS} (cx : KC p c cc s args m RX1 D ca) (hI : KI D A (mw ad ca v) s.heap H locs) {y : Int32} (hdg : decode cc pc = .ok (.putfield 27, 3)) (k : ∀ (H : Heap) (locs : List Loc), KI D A (mw ad ca (mUl v y)) s.heap H locs → W p l e R s m args below meth c H locs cells slots Q (F0 m (pc + 3) ls rest)) : W p l e R s m args below meth c H locs cells slots Q (F0 m pc ls (.int y :: .ref (ad 0) :: rest)) := va_put (D := D) (ci := 1) (v := .int y) (ty := .int) (C := RX1) (T := TX1) (N := 13) cx.1 cx.2.1 cx.2.2.2.1 wk_X1 tyX1 tyX1_ok nmX1 cx.2.2.1 cx.2.2.2.2 hI.1 hI.2.1 hI.2.2.1 0 rfl rfl 8 (by decide) (cx.2.2.2.1 _ wk_451) (fun _ h9 => h9) rfl (by decide +kernel) rfl rfl (Nat.le_of_ble_eq_true rfl) hdg (fun H1 locs1 hP hD hS => k H1 locs1 ⟨hP, hD, hS, hI.2.2.2⟩)
theorem mg_9 {v : MS} (cx : KC p c cc s args m RX1 D ca) (hI : KI D A (mw ad ca v) s.heap H locs) (hdg : decode cc pc = .ok (.getfield 88, 3)) (k : W p l e R s m args below meth c H locs cells slots Q (F0 m (pc + 3) ls (.int (mm v) :: rest))) : W p l e R s m args below meth c H locs cells slots Q (F0 m pc ls (.ref (ad 0) :: rest)) := va_get (D := D) (ci := 1) (v := .int (mm v)) (C := RX1) (T := TX1) (N := 13) cx.1 cx.2.1 cx.2.2.2.1 wk_X1 cx.2.2.1 cx.2.2.2.2 hI.1 0 rfl rfl 9 (by decide) (cx.2.2.2.1 _ wk_452) (fun _ h9 => h9) rfl hdg k
theorem mp_9 {v : MS} (cx : KC p c cc s args m RX1 D ca) (hI : KI D A (mw ad ca v) s.heap H locs) {y : Int32} (hdg : decode cc pc = .ok (.putfield 88, 3)) (k : ∀ (H : Heap) (locs : List Loc), KI D A (mw ad ca (mUm v y)) s.heap H locs → W p l e R s m args below meth c H locs cells slots Q (F0 m (pc + 3) ls rest)) : W p l e R s m args below meth c H locs cells slots Q (F0 m pc ls (.int y :: .ref (ad 0) :: rest)) := va_put (D := D) (ci := 1) (v := .int y) (ty := .int) (C := RX1) (T := TX1) (N := 13) cx.1 cx.2.1 cx.2.2.2.1 wk_X1 tyX1 tyX1_ok nmX1 cx.2.2.1 cx.2.2.2.2 hI.1 hI.2.1 hI.2.2.1 0 rfl rfl 9 (by decide) (cx.2.2.2.1 _ wk_452) (fun _ h9 => h9) rfl (by decide +kernel) rfl rfl (Nat.le_of_ble_eq_true rfl) hdg (fun H1 locs1 hP hD hS => k H1 locs1 ⟨hP, hD, hS, hI.2.2.2⟩)
theorem mg_10 {v : MS} (cx : KC p c cc s args m RX1 D ca) (hI : KI D A (mw ad ca v) s.heap H locs) (hdg : decode cc pc = .ok (.getfield 61, 3)) (k : W p l e R s m args below meth c H locs cells slots Q (F0 m (pc + 3) ls (.int (mc v) :: rest))) : W p l e R s m args below meth c H locs cells slots Q (F0 m pc ls (.ref (ad 0) :: rest)) := va_get (D := D) (ci := 1) (v := .int (mc v)) (C := RX1) (T := TX1) (N := 13) cx.1 cx.2.1 cx.2.2.2.1 wk_X1 cx.2.2.1 cx.2.2.2.2 hI.1 0 rfl rfl 10 (by decide) (cx.2.2.2.1 _ wk_453) (fun _ h9 => h9) rfl hdg k
theorem mp_10 {v : MS} (cx : KC p c cc s args m RX1 D ca) (hI : KI D A (mw ad ca v) s.heap H locs) {y : Int32} (hdg : decode cc pc = .ok (.putfield 61, 3)) (k : ∀ (H : Heap) (locs : List Loc), KI D A (mw ad ca (mUc v y)) s.heap H locs → W p l e R s m args below meth c H locs cells slots Q (F0 m (pc + 3) ls rest)) : W p l e R s m args below meth c H locs cells slots Q (F0 m pc ls (.int y :: .ref (ad 0) :: rest)) := va_put (D := D) (ci := 1) (v := .int y) (ty := .int) (C := RX1) (T := TX1) (N := 13) cx.1 cx.2.1 cx.2.2.2.1 wk_X1 tyX1 tyX1_ok nmX1 cx.2.2.1 cx.2.2.2.2 hI.1 hI.2.1 hI.2.2.1 0 rfl rfl 10 (by decide) (cx.2.2.2.1 _ wk_453) (fun _ h9 => h9) rfl (by decide +kernel) rfl rfl (Nat.le_of_ble_eq_true rfl) hdg (fun H1 locs1 hP hD hS => k H1 locs1 ⟨hP, hD, hS, hI.2.2.2⟩)
theorem mg_11 {v : MS} (cx : KC p c cc s args m RX1 D ca) (hI : KI D A (mw ad ca v) s.heap H locs) (hdg : decode cc pc = .ok (.getfield 30, 3)) (k : W p l e R s m args below meth c H locs cells slots Q (F0 m (pc + 3) ls (.ref (ad 5) :: rest))) : W p l e R s m args below meth c H locs cells slots Q (F0 m pc ls (.ref (ad 0) :: rest)) := va_get (D := D) (ci := 1) (v := .ref (ad 5)) (C := RX1) (T := TX1) (N := 13) cx.1 cx.2.1 cx.2.2.2.1 wk_X1 cx.2.2.1 cx.2.2.2.2 hI.1 0 rfl rfl 11 (by decide) (cx.2.2.2.1 _ wk_454) (fun _ h9 => h9) rfl hdg k
theorem mg_12 {v : MS} (cx : KC p c cc s args m RX1 D ca) (hI : KI D A (mw ad ca v) s.heap H locs) (hdg : decode cc pc = .ok (.getfield 33, 3)) (k : W p l e R s m args below meth c H locs cells slots Q (F0 m (pc + 3) ls (.int (mz v) :: rest))) : W p l e R s m args below meth c H locs cells slots Q (F0 m pc ls (.ref (ad 0) :: rest)) := va_get (D := D) (ci := 1) (v := .int (mz v)) (C := RX1) (T := TX1) (N := 13) cx.1 cx.2.1 cx.2.2.2.1 wk_X1 cx.2.2.1 cx.2.2.2.2 hI.1 0 rfl rfl 12 (by decide) (cx.2.2.2.1 _ wk_455) (fun _ h9 => h9) rfl hdg k
theorem mp_12 {v : MS} (cx : KC p c cc s args m RX1 D ca) (hI : KI D A (mw ad ca v) s.heap H locs) {y : Int32} (hdg : decode cc pc = .ok (.putfield 33, 3)) (k : ∀ (H : Heap) (locs : List Loc), KI D A (mw ad ca (mUz v y)) s.heap H locs → W p l e R s m args below meth c H locs cells slots Q (F0 m (pc + 3) ls rest)) : W p l e R s m args below meth c H locs cells slots Q (F0 m pc ls (.int y :: .ref (ad 0) :: rest)) := va_put (D := D) (ci := 1) (v := .int y) (ty := .int) (C := RX1) (T := TX1) (N := 13) cx.1 cx.2.1 cx.2.2.2.1 wk_X1 tyX1 tyX1_ok nmX1 cx.2.2.1 cx.2.2.2.2 hI.1 hI.2.1 hI.2.2.1 0 rfl rfl 12 (by decide) (cx.2.2.2.1 _ wk_455) (fun _ h9 => h9) rfl (by decide +kernel) rfl rfl (Nat.le_of_ble_eq_true rfl) hdg (fun H1 locs1 hP hD hS => k H1 locs1 ⟨hP, hD, hS, hI.2.2.2⟩)
theorem ma_O {v : MS} (cx : KC p c cc s args m RX1 D ca) (hI : KI D A (mw ad ca v) s.heap H locs) {i : Int32} (hin : vp_in i 40) (hdg : decode cc pc = .ok (.iaload, 1)) (k : W p l e R s m args below meth c H locs cells slots Q (F0 m (pc + 1) ls (.int (mO v i.toNatClampNeg) :: rest))) : W p l e R s m args below meth c H locs cells slots Q (F0 m pc ls (.int i :: .ref (ad 1) :: rest)) := va_iald cx.1 cx.2.1 cx.2.2.2.2 hI.1 1 0 rfl rfl hin hdg k
theorem ms_O {v : MS} (cx : KC p c cc s args m RX1 D ca) (hI : KI D A (mw ad ca v) s.heap H locs) {i y : Int32} (hin : vp_in i 40) (hdg : decode cc pc = .ok (.iastore, 1)) (k : ∀ (H : Heap) (locs : List Loc), KI D A (mw ad ca (mUO v (upd (mO v) i.toNatClampNeg y))) s.heap H locs → W p l e R s m args below meth c H locs cells slots Q (F0 m (pc + 1) ls rest)) : W p l e R s m args below meth c H locs cells slots Q (F0 m pc ls (.int y :: .int i :: .ref (ad 1) :: rest)) := va_iast cx.1 cx.2.1 cx.2.2.2.2 hI.1 hI.2.1 hI.2.2.1 1 0 rfl rfl hin hdg (fun H1 locs1 hP hD hS => k H1 locs1 ⟨hP, hD, hS, hI.2.2.2⟩)
theorem ma_S {v : MS} (cx : KC p c cc s args m RX1 D ca) (hI : KI D A (mw ad ca v) s.heap H locs) {i : Int32} (hin : vp_in i 120) (hdg : decode cc pc = .ok (.iaload, 1)) (k : W p l e R s m args below meth c H locs cells slots Q (F0 m (pc + 1) ls (.int (mS v i.toNatClampNeg) :: rest))) : W p l e R s m args below meth c H locs cells slots Q (F0 m pc ls (.int i :: .ref (ad 2) :: rest)) := va_iald cx.1 cx.2.1 cx.2.2.2.2 hI.1 2 0 rfl rfl hin hdg k
theorem ms_S {v : MS} (cx : KC p c cc s args m RX1 D ca) (hI : KI D A (mw ad ca v) s.heap H locs) {i y : Int32} (hin : vp_in i 120) (hdg : decode cc pc = .ok (.iastore, 1)) (k : ∀ (H : Heap) (locs : List Loc), KI D A (mw ad ca (mUS v (upd (mS v) i.toNatClampNeg y))) s.heap H locs → W p l e R s m args below meth c H locs cells slots Q (F0 m (pc + 1) ls rest)) : W p l e R s m args below meth c H locs cells slots Q (F0 m pc ls (.int y :: .int i :: .ref (ad 2) :: rest)) := va_iast cx.1 cx.2.1 cx.2.2.2.2 hI.1 hI.2.1 hI.2.2.1 2 0 rfl rfl hin hdg (fun H1 locs1 hP hD hS => k H1 locs1 ⟨hP, hD, hS, hI.2.2.2⟩)
theorem ma_H {v : MS} (cx : KC p c cc s args m RX1 D ca) (hI : KI D A (mw ad ca v) s.heap H locs) {i : Int32} (hin : vp_in i 40) (hdg : decode cc pc = .ok (.baload, 1)) (k : W p l e R s m args below meth c H locs cells slots Q (F0 m (pc + 1) ls (.int (mH v i.toNatClampNeg) :: rest))) : W p l e R s m args below meth c H locs cells slots Q (F0 m pc ls (.int i :: .ref (ad 3) :: rest)) := va_zald cx.1 cx.2.1 cx.2.2.2.2 hI.1 3 1 rfl rfl hin hdg k
theorem ms_H {v : MS} (cx : KC p c cc s args m RX1 D ca) (hI : KI D A (mw ad ca v) s.heap H locs) {i y : Int32} (hin : vp_in i 40) (hdg : decode cc pc = .ok (.bastore, 1)) (k : ∀ (H : Heap) (locs : List Loc), KI D A (mw ad ca (mUH v (upd (mH v) i.toNatClampNeg (vp_nar .boolean y)))) s.heap H locs → W p l e R s m args below meth c H locs cells slots Q (F0 m (pc + 1) ls rest)) : W p l e R s m args below meth c H locs cells slots Q (F0 m pc ls (.int y :: .int i :: .ref (ad 3) :: rest)) := va_zast cx.1 cx.2.1 cx.2.2.2.2 hI.1 hI.2.1 hI.2.2.1 3 1 rfl rfl hin hdg (fun H1 locs1 hP hD hS => k H1 locs1 ⟨hP, hD, hS, hI.2.2.2⟩)
theorem ma_F {v : MS} (cx : KC p c cc s args m RX1 D ca) (hI : KI D A (mw ad ca v) s.heap H locs) {i : Int32} (hin : vp_in i 40) (hdg : decode cc pc = .ok (.baload, 1)) (k : W p l e R s m args below meth c H locs cells slots Q (F0 m (pc + 1) ls (.int (mF v i.toNatClampNeg) :: rest))) : W p l e R s m args below meth c H locs cells slots Q (F0 m pc ls (.int i :: .ref (ad 4) :: rest)) := va_zald cx.1 cx.2.1 cx.2.2.2.2 hI.1 4 1 rfl rfl hin hdg k
theorem ms_F {v : MS} (cx : KC p c cc s args m RX1 D ca) (hI : KI D A (mw ad ca v) s.heap H locs) {i y : Int32} (hin : vp_in i 40) (hdg : decode cc pc = .ok (.bastore, 1)) (k : ∀ (H : Heap) (locs : List Loc), KI D A (mw ad ca (mUF v (upd (mF v) i.toNatClampNeg (vp_nar .boolean y)))) s.heap H locs → W p l e R s m args below meth c H locs cells slots Q (F0 m (pc + 1) ls rest)) : W p l e R s m args below meth c H locs cells slots Q (F0 m pc ls (.int y :: .int i :: .ref (ad 4) :: rest)) := va_zast cx.1 cx.2.1 cx.2.2.2.2 hI.1 hI.2.1 hI.2.2.1 4 1 rfl rfl hin hdg (fun H1 locs1 hP hD hS => k H1 locs1 ⟨hP, hD, hS, hI.2.2.2⟩)
theorem ma_N {v : MS} (cx : KC p c cc s args m RX1 D ca) (hI : KI D A (mw ad ca v) s.heap H locs) {i : Int32} (hin : vp_in i 2000) (hdg : decode cc pc = .ok (.iaload, 1)) (k : W p l e R s m args below meth c H locs cells slots Q (F0 m (pc + 1) ls (.int (mN v i.toNatClampNeg) :: rest))) : W p l e R s m args below meth c H locs cells slots Q (F0 m pc ls (.int i :: .ref (ad 5) :: rest)) := va_iald cx.1 cx.2.1 cx.2.2.2.2 hI.1 5 0 rfl rfl hin hdg k
theorem ms_N {v : MS} (cx : KC p c cc s args m RX1 D ca) (hI : KI D A (mw ad ca v) s.heap H locs) {i y : Int32} (hin : vp_in i 2000) (hdg : decode cc pc = .ok (.iastore, 1)) (k : ∀ (H : Heap) (locs : List Loc), KI D A (mw ad ca (mUN v (upd (mN v) i.toNatClampNeg y))) s.heap H locs → W p l e R s m args below meth c H locs cells slots Q (F0 m (pc + 1) ls rest)) : W p l e R s m args below meth c H locs cells slots Q (F0 m pc ls (.int y :: .int i :: .ref (ad 5) :: rest)) := va_iast cx.1 cx.2.1 cx.2.2.2.2 hI.1 hI.2.1 hI.2.2.1 5 0 rfl rfl hin hdg (fun H1 locs1 hP hD hS => k H1 locs1 ⟨hP, hD, hS, hI.2.2.2⟩)
/-- a column's array out of the array of them -/
theorem xa_cols {v : XS} (cx : KC p c cc s args m RX0 D ca) (hI : KI D A (xw ad ca v) s.heap H locs) {i : Int32} (hin : vp_in i 3) (hdg : decode cc pc = .ok (.aaload, 1)) (k : W p l e R s m args below meth c H locs cells slots Q (F0 m (pc + 1) ls (.ref (ad (4 + i.toNatClampNeg)) :: rest))) : W p l e R s m args below meth c H locs cells slots Q (F0 m pc ls (.int i :: .ref (ad 3) :: rest)) := by
  have hlt : i.toNatClampNeg < 3 := Nat.not_le.mp fun q => hin (Or.inr q)
  have hv : va_rf (xcols ad i.toNatClampNeg) = .ref (ad (4 + i.toNatClampNeg)) := by simp [xcols, hlt, va_rf]
  refine W.aald (v := va_rf (xcols ad i.toNatClampNeg)) (ty := .array .int) cx.1 cx.2.1 (hI.1 3 _ rfl) ((cx.2.2.2.2.2 2 _ rfl).1 3 (fun j => va_rf (xcols ad j))) rfl (fun q => by cases q) (by show ¬ (i < 0 ∨ (arrV _ _ _).slots.size ≤ _); rw [arrV_size]; exact hin) (by show (arrV _ _ _).slots[_]? = _; rw [arrV_read _ _ hlt]) rfl rfl hdg ?_
  rw [hv]
  exact k
end KROWS
end
section
/-! MINE: contracts in one form (CM returns, CX returns or throws, CH catches), and one row a call, with the frame around it. -/
section KFRAME
variable {D : va_G} {cl : List vw_C} {A : Nat → Prop} {pre w post w' ws ws' : va_W} {H H1 H0 : Heap} {locs : List Loc}
theorem kf_P (hP : va_P D cl (pre ++ (w ++ post)) H) (hD : va_D A (pre ++ (w ++ post))) (hk : ∀ q, q < H.size → ¬ va_A w H.size q → H1[q]? = H[q]?) (hP1 : va_P D cl w' H1) : va_P D cl (pre ++ (w' ++ post)) H1 := by
  have out : ∀ (i : Nat) (q : Nat × va_E), (pre ++ (w ++ post))[i]? = some q → (i < pre.length ∨ pre.length + w.length ≤ i) → va_at D cl q H1 := by
    intro i q hi hout
    have h := hP i q hi
    refine h.kept (hk q.1 h.lt ?_)
    rintro (⟨k, e, hk⟩ | hz)
    · have hkl : k < w.length := (List.getElem?_eq_some_iff.mp hk).1
      have h2 : (pre ++ (w ++ post))[pre.length + k]? = some (q.1, e) := by
        rw [List.getElem?_append_right (by omega), show pre.length + k - pre.length = k by omega, List.getElem?_append_left hkl]
        exact hk
      have := hD.1 i (pre.length + k) q (q.1, e) hi h2 rfl
      omega
    · exact absurd h.lt (Nat.not_lt.mpr hz)
  intro k q hq
  by_cases h1 : k < pre.length
  · rw [List.getElem?_append_left h1] at hq
    exact out k q (by rw [List.getElem?_append_left h1]; exact hq) (Or.inl h1)
  · rw [List.getElem?_append_right (by omega)] at hq
    by_cases h2 : k - pre.length < w'.length
    · rw [List.getElem?_append_left h2] at hq
      exact hP1 _ q hq
    · rw [List.getElem?_append_right (by omega)] at hq
      refine out (pre.length + (w.length + (k - pre.length - w'.length))) q ?_ (Or.inr (by omega))
      rw [List.getElem?_append_right (by omega), show pre.length + (w.length + (k - pre.length - w'.length)) - pre.length = w.length + (k - pre.length - w'.length) by omega, List.getElem?_append_right (by omega), show w.length + (k - pre.length - w'.length) - w.length = k - pre.length - w'.length by omega]
      exact hq
theorem kf_D (h : ws'.map Prod.fst = ws.map Prod.fst) (hD : va_D A ws) : va_D A ws' := by
  have g : ∀ (k : Nat) (q : Nat × va_E), ws'[k]? = some q → ∃ q0, ws[k]? = some q0 ∧ q0.1 = q.1 := by
    intro k q hk
    have e : (ws'.map Prod.fst)[k]? = (ws.map Prod.fst)[k]? := by rw [h]
    rw [List.getElem?_map, List.getElem?_map, hk] at e
    cases hw : ws[k]? with
    | none => rw [hw] at e; cases e
    | some q0 => rw [hw] at e; exact ⟨q0, rfl, (Option.some.inj e).symm⟩
  refine ⟨fun i j p q hi hj hpq => ?_, fun k q hk => ?_⟩
  · obtain ⟨p0, h1, h2⟩ := g i p hi
    obtain ⟨q0, h3, h4⟩ := g j q hj
    exact hD.1 i j p0 q0 h1 h3 (by rw [h2, h4, hpq])
  · obtain ⟨q0, h1, h2⟩ := g k q hk
    rw [← h2]
    exact hD.2 k q0 h1
theorem kf_Dw (had : w'.map Prod.fst = w.map Prod.fst) (hD : va_D A (pre ++ (w ++ post))) : va_D A (pre ++ (w' ++ post)) :=
  kf_D (by rw [List.map_append, List.map_append, List.map_append, List.map_append, had]) hD
theorem kf_at (hP : va_P D cl (pre ++ (w ++ post)) H) : va_P D cl w H := fun k q hk => by
  have hkl : k < w.length := (List.getElem?_eq_some_iff.mp hk).1
  refine hP (pre.length + k) q ?_
  rw [List.getElem?_append_right (by omega), show pre.length + k - pre.length = k by omega, List.getElem?_append_left hkl]
  exact hk
theorem kf_Dat (hD : va_D A (pre ++ (w ++ post))) : va_D A w := by
  have g : ∀ (k : Nat) (q : Nat × va_E), w[k]? = some q → (pre ++ (w ++ post))[pre.length + k]? = some q := by
    intro k q hk
    have hkl : k < w.length := (List.getElem?_eq_some_iff.mp hk).1
    rw [List.getElem?_append_right (by omega), show pre.length + k - pre.length = k by omega, List.getElem?_append_left hkl]
    exact hk
  refine ⟨fun i j p q hi hj hpq => ?_, fun k q hk => hD.2 _ q (g k q hk)⟩
  have := hD.1 _ _ p q (g i p hi) (g j q hj) hpq
  omega
theorem kf_free (hD : va_D A (pre ++ (w ++ post))) (hS : va_S A H0 H locs) (hA : ∀ q, H0.size ≤ q → A q) : ∀ q, va_A w H.size q → A q := by
  rintro q (⟨k, e, hk⟩ | h)
  · exact (kf_Dat hD).2 k (q, e) hk
  · exact hA q (Nat.le_trans hS.1 h)
end KFRAME
/-- the words that throwing and catching want of the tables, and that a warmed state keeps one by one -/
def kws : List Cond := [.castable "java/lang/IndexOutOfBoundsException" "java/lang/IndexOutOfBoundsException", .castable "java/lang/IllegalArgumentException" "java/lang/IllegalArgumentException", .castable "java/lang/IllegalStateException" "java/lang/IllegalStateException", .castable "java/util/NoSuchElementException" "java/util/NoSuchElementException", .declares (Bundle.initS "java/lang/RuntimeException"), .declares (Bundle.initS "java/lang/Exception"), .declares (Bundle.initS "java/lang/Throwable")]
theorem kws_warm {s U : State} (hW : s.WarmedH U.vm) (h : ∀ w ∈ kws, va_Nw w s) : ∀ w ∈ kws, va_Nw w U := by
  intro w hw
  have h1 := h w hw
  simp only [kws, List.mem_cons, List.not_mem_nil, or_false] at hw
  rcases hw with rfl | rfl | rfl | rfl | rfl | rfl | rfl
  · exact va_Nw.warmC hW h1
  · exact va_Nw.warmC hW h1
  · exact va_Nw.warmC hW h1
  · exact va_Nw.warmC hW h1
  · exact va_Nw.warmD hW h1
  · exact va_Nw.warmD hW h1
  · exact va_Nw.warmD hW h1
theorem kws_same {u U : State} (hvm : u.vm = U.vm) (h : ∀ w ∈ kws, va_Nw w u) : ∀ w ∈ kws, va_Nw w U := by
  intro w hw
  have h1 := h w hw
  simp only [kws, List.mem_cons, List.not_mem_nil, or_false] at hw
  rcases hw with rfl | rfl | rfl | rfl | rfl | rfl | rfl <;> exact va_Nw.same rfl hvm h1
/-- the class's texts: entry of its pool, text -/
def kstrs : List (Nat × String) := [(50, "there is no such key"), (61, "a or b is out of range, or the row does not fit"), (69, "there is a row with this key"), (82, "there is no row with this key"), (92, "both keys are the same"), (94, "there is no row with the first key"), (96, "there is a row with the other key"), (111, "alteration or parameter is out of range"), (113, "the phase is not IDLE"), (124, "chunk or lag is out of range"), (126, "lag is out of range"), (128, "the phase is not COPYING"), (140, "most is out of range"), (142, "not COPYING, the mark is not 40, or more notes"), (144, "the phase is not CUT"), (158, "there is no such key or column"), (166, "there is no such column")]
def kexs : List String := ["java/lang/IndexOutOfBoundsException", "java/lang/IllegalArgumentException", "java/lang/IllegalStateException", "java/util/NoSuchElementException"]
/-- what throwing and catching want of the heap and of the tables; A: what may be written -/
def KE (A : Nat → Prop) (U : State) (H : Heap) : Prop :=
  vx_Zq Bundle.tN "UNASSIGNED_STACK" Bundle.steD A U H ∧ vx_Zq Bundle.tN "SUPPRESSED_SENTINEL" Bundle.listD A U H ∧ (∀ q ∈ kstrs, ∃ sa, vk_R RX0 q.1 q.2 sa U) ∧ (∀ w ∈ kws, va_Nw w U) ∧ ∀ E ∈ kexs, ∀ F ∈ kexs, E ≠ F → va_Nc E F U
theorem KE.to {A B : Nat → Prop} {s U : State} {H H1 : Heap} (hW : s.WarmedH U.vm) (hk : ∀ a : Nat, a < H.size → ¬ A a → H1[a]? = H[a]?) (hAB : ∀ q, B q → A q) (h : KE A s H) : KE B U H1 := by
  obtain ⟨h1, h2, h3, h4, h5⟩ := h
  refine ⟨((h1.kept hk).narrow hAB).moved hW.alike, ((h2.kept hk).narrow hAB).moved hW.alike, fun q hq => ?_, kws_warm hW h4, fun E hE F hF hn => (h5 E hE F hF hn).moved hW.alike⟩
  obtain ⟨sa, hsa⟩ := h3 q hq
  exact ⟨sa, hsa.warm hW⟩
theorem KE.same {A : Nat → Prop} {u U : State} {H : Heap} (hvm : u.vm = U.vm) (h : KE A u H) : KE A U H := by
  have hal : u.vm.Alike U.vm := by rw [hvm]; exact Vm.Alike.refl U.vm
  obtain ⟨h1, h2, h3, h4, h5⟩ := h
  refine ⟨h1.moved hal, h2.moved hal, fun q hq => ?_, kws_same hvm h4, fun E hE F hF hn => (h5 E hE F hF hn).moved hal⟩
  obtain ⟨sa, hsa⟩ := h3 q hq
  exact ⟨sa, vk_R.same hvm.symm hsa⟩
/-- a body's start: the arguments, the heap's size, the world -/
def KP (D : va_G) (ca : Nat → ClassId) (w : va_W) (As : List Value) (sz : Nat) : Array Value → State → Prop :=
  va_Pc As (fun U => U.heap.size = sz ∧ va_P D vwCl w U.heap ∧ va_K D vwCl (ktys ca) U ∧ va_D (fun _ => True) w)
def KPE (D : va_G) (ca : Nat → ClassId) (w : va_W) (As : List Value) (sz : Nat) : Array Value → State → Prop :=
  va_Pc As (fun U => U.heap.size = sz ∧ va_P D vwCl w U.heap ∧ va_K D vwCl (ktys ca) U ∧ va_D (fun _ => True) w ∧ KE (va_A w sz) U U.heap)
/-- its end -/
def KQ (D : va_G) (w' : va_W) (o : Option Value) (A : Nat → Prop) : Array Value → State → Outcome → State → Prop := fun _ st oc t => oc = .returned o ∧ va_P D vwCl w' t.heap ∧ va_F A st t
/-- its end by a throw: the world is as it was -/
def KX (D : va_G) (w : va_W) (ψ : String → Prop) (A : Nat → Prop) : String → State → State → Prop := fun E st t => ψ E ∧ va_P D vwCl w t.heap ∧ va_F A st t
/-- A CONTRACT: called with As in the world w, y returns o, and leaves the world w' -/
def CM (l : Launch) (y : MethodName) (cd : ByteArray) (ml : Nat) (rt : Option FieldType) (rm : Room) (D : va_G) (ca : Nat → ClassId) (w : va_W) (As : List Value) (o : Option Value) (w' : va_W) : Prop :=
  ∀ sz : Nat, Met l y (.code y cd ml rt :: WL) rm (KP D ca w As sz) (KQ D w' o (va_A w sz)) 0 0 (va_A w sz)
/-- the same where y may throw: it returns only where φ, and throws E only where ψ E -/
def CX (l : Launch) (y : MethodName) (cd : ByteArray) (ml : Nat) (rt : Option FieldType) (rm : Room) (D : va_G) (ca : Nat → ClassId) (w : va_W) (As : List Value) (φ : Prop) (o : Option Value) (w' : va_W) (ψ : String → Prop) : Prop :=
  ∀ sz : Nat, vx_Met l y (.code y cd ml rt :: WL) rm (KPE D ca w As sz) (fun a st oc t => φ ∧ KQ D w' o (va_A w sz) a st oc t) (KX D w ψ (va_A w sz)) 1 6 (va_A w sz)
/-- a method of the law's, with a table of handlers: it returns -/
def CH (l : Launch) (y : MethodName) (cd : ByteArray) (ml : Nat) (rt : Option FieldType) (hh : List (Nat × Nat × Nat × Nat)) (rm : Room) (D : va_G) (ca : Nat → ClassId) (w : va_W) (As : List Value) (o : Option Value) (w' : va_W) : Prop :=
  ∀ sz : Nat, Met l y (.codeWith y cd ml rt hh :: WL) rm (KPE D ca w As sz) (KQ D w' o (va_A w sz)) 1 6 (va_A w sz)
theorem KP.blind {D : va_G} {ca : Nat → ClassId} {w : va_W} {As : List Value} {sz : Nat} : FrameBlind (KP D ca w As sz) := fun a U g mk q => by
  obtain ⟨q0, q1, qP, qK, qD⟩ := q
  exact ⟨q0, q1, qP, va_K.moved (u := U) (U := U.calling g mk a) (Vm.Alike.refl U.vm) qK, qD⟩
theorem KPE.blind {D : va_G} {ca : Nat → ClassId} {w : va_W} {As : List Value} {sz : Nat} : FrameBlind (KPE D ca w As sz) := fun a U g mk q => by
  obtain ⟨q0, q1, qP, qK, qD, qE⟩ := q
  exact ⟨q0, q1, qP, va_K.moved (u := U) (U := U.calling g mk a) (Vm.Alike.refl U.vm) qK, qD, KE.same (u := U) (U := U.calling g mk a) rfl qE⟩
section KBODY
variable {l : Launch} {y : MethodName} {cd : ByteArray} {ml : Nat} {rt : Option FieldType} {rm : Room} {D : va_G} {ca : Nat → ClassId} {w w' : va_W} {As : List Value} {o : Option Value} {φ : Prop} {ψ : String → Prop} {hh : List (Nat × Nat × Nat × Nat)}
theorem CM.of (hy : plainName y.cls = true) (hn : (lg_sl As).length ≤ ml)
    (body : ∀ (p : Program) (e : Env) (s : State) (m : MethodId) (below : List Frame) (meth : Method) (c : Code) (A : Nat → Prop) (ls : Array Slot), KC p c cd s As.toArray m y.cls D ca → c.maxLocals = ml → meth.sig.returnType = rt → meth.locks = false → KI D A w s.heap s.heap [] → lv_has ls ml (lv_args 0 As) →
      W p l e rm s m As.toArray below meth c s.heap [] 0 0 (MQ below (KQ D w' o A) As.toArray s 0 0 A) (F0 m 0 ls [])) : CM l y cd ml rt rm D ca w As o w' := by
  intro sz
  refine Met.ofW (cc := cd) (maxL := ml) (ret := rt) hy rfl ?_
  intro p e s m args below meth c s₁ B hml hv
  obtain ⟨rfl, hsz, hP, hK, hD0⟩ := hv
  have hts := atoms_spec (ws := .code y cd ml rt :: WL) B.pre
  have hown : s.vm.findClass y.cls = some m.cls := findClass_of_methodNamed B.named
  subst hsz
  have hD := hD0.self (sz := s.heap.size)
  have hl := lv_entry As (n := ml) hn
  rw [lg_entry_eq]
  exact body p e s m below meth c _ _ ⟨B.exec, B.bytes, hown, fun w hw => hts w (List.mem_cons_of_mem _ hw), hK⟩ hml B.returns B.notSynchronized ⟨hP, hD, va_S.rf, fun q h => Or.inr h⟩ hl
theorem CX.of (hy : plainName y.cls = true) (hn : (lg_sl As).length ≤ ml)
    (body : ∀ (p : Program) (e : Env) (s : State) (m : MethodId) (below : List Frame) (meth : Method) (c : Code) (A : Nat → Prop) (ls : Array Slot), KC p c cd s As.toArray m y.cls D ca → c.maxLocals = ml → meth.sig.returnType = rt → meth.locks = false → (∀ x ∈ c.exceptionTable.toList, False) → KE A s s.heap → KI D A w s.heap s.heap [] → lv_has ls ml (lv_args 0 As) →
      W p l e rm s m As.toArray below meth c s.heap [] 0 0 (vx_MQ below (fun a st oc t => φ ∧ KQ D w' o A a st oc t) (KX D w ψ A) As.toArray s 1 6 A) (F0 m 0 ls [])) : CX l y cd ml rt rm D ca w As φ o w' ψ := by
  intro sz
  refine vx_ofW (cc := cd) (maxL := ml) (ret := rt) hy rfl ?_
  intro p e s m args below meth c s₁ B hml htab hv
  obtain ⟨rfl, hsz, hP, hK, hD0, hE⟩ := hv
  have hts := atoms_spec (ws := .code y cd ml rt :: WL) B.pre
  have hown : s.vm.findClass y.cls = some m.cls := findClass_of_methodNamed B.named
  subst hsz
  have hD := hD0.self (sz := s.heap.size)
  have hl := lv_entry As (n := ml) hn
  rw [lg_entry_eq]
  exact body p e s m below meth c _ _ ⟨B.exec, B.bytes, hown, fun w hw => hts w (List.mem_cons_of_mem _ hw), hK⟩ hml B.returns B.notSynchronized htab hE ⟨hP, hD, va_S.rf, fun q h => Or.inr h⟩ hl
theorem CH.of (hy : plainName y.cls = true) (hn : (lg_sl As).length ≤ ml)
    (body : ∀ (p : Program) (e : Env) (s : State) (m : MethodId) (below : List Frame) (meth : Method) (c : Code) (A : Nat → Prop) (ls : Array Slot), KC p c cd s As.toArray m y.cls D ca → c.maxLocals = ml → meth.sig.returnType = rt → meth.locks = false → c.exceptionTable.toList = tableOf hh → KE A s s.heap → KI D A w s.heap s.heap [] → lv_has ls ml (lv_args 0 As) →
      W p l e rm s m As.toArray below meth c s.heap [] 0 0 (MQ below (KQ D w' o A) As.toArray s 1 6 A) (F0 m 0 ls [])) : CH l y cd ml rt hh rm D ca w As o w' := by
  intro sz
  refine MetFree.of_bodyS (code := cd) (maxLocals := ml) (ret := rt) hy ?_ ?_
  · intro args s m h hn
    obtain ⟨m9, meth, c, hn9, h1, h2, h3, h4, -, h5, h6, -⟩ := Cond.codeWith_spec (atoms_spec (ws := .codeWith y cd ml rt hh :: WL) h _ List.mem_cons_self)
    cases hn.symm.trans hn9
    exact ⟨meth, c, h1, h2, h3, h4, h5, h6⟩
  · intro p e s m args below meth c s₁ B hml hv _
    have hh0 : s₁.heap = s.heap := by rw [B.state]; rfl
    obtain ⟨rfl, hsz, hP, hK, hD0, hE⟩ := hv
    have hts := atoms_spec (ws := .codeWith y cd ml rt hh :: WL) B.pre
    have htab := vx_table (x := y) B (hts _ List.mem_cons_self)
    have hown : s.vm.findClass y.cls = some m.cls := findClass_of_methodNamed B.named
    subst hsz
    have hD := hD0.self (sz := s.heap.size)
    have hl := lv_entry As (n := ml) hn
    have k := body p e s m below meth c _ _ ⟨B.exec, B.bytes, hown, fun w hw => hts w (List.mem_cons_of_mem _ hw), hK⟩ hml B.returns B.notSynchronized htab hE ⟨hP, hD, va_S.rf, fun q h => Or.inr h⟩ hl
    rw [← lg_entry_eq] at k
    obtain ⟨t, a1, o, b1, b2, b3⟩ := k s₁ hh0 (Stand.of_body B)
    exact ⟨t, o, a1, b1, b2, ⟨b3.1, b3.2⟩⟩
end KBODY
end
section
/-! MINE: a row a call. -/
theorem wk_V {own C : String} {i : Nat} {y : MethodName} {b : ByteArray} {ml : Nat} {rt : Option FieldType} (h0 : Cond.code y b ml rt ∈ WL) (h1 : Cond.methodLink own i y ∈ WL) (h2 : Cond.instanceMethod y ∈ WL) (h3 : Cond.selects C y y ∈ WL) (h4 : Cond.initialized C ∈ WL) : GoodIn WL (wsV own i C y (.code y b ml rt :: WL)) := fun w hw => by
  have h : w ∈ WL := by
    unfold wsV at hw
    simp only [List.cons_append, List.nil_append, List.mem_cons] at hw
    rcases hw with rfl | rfl | rfl | rfl | rfl | hw
    · exact h1
    · exact h2
    · exact h3
    · exact h4
    · exact h0
    · exact hw
  exact ⟨h, good_of_word (List.mem_filter.mp h).2⟩
theorem wk_S {own : String} {i : Nat} {y : MethodName} {cw : Cond} (h0 : cw ∈ WL) (h1 : Cond.methodLink own i y ∈ WL) (h2 : Cond.static y ∈ WL) (h4 : Cond.initialized y.cls ∈ WL) : GoodIn WL (va_wsS own i y (cw :: WL)) := fun w hw => by
  have h : w ∈ WL := by
    unfold va_wsS at hw
    simp only [List.cons_append, List.nil_append, List.mem_cons] at hw
    rcases hw with rfl | rfl | rfl | rfl | hw
    · exact h1
    · exact h2
    · exact h4
    · exact h0
    · exact hw
  exact ⟨h, good_of_word (List.mem_filter.mp h).2⟩
section KCALL
variable {p : Program} {l : Launch} {e : Env} {R : Room} {s : State} {m : MethodId} {args : Array Value} {below : List Frame} {meth : Method} {c : Code} {H : Heap} {locs : List Loc} {cells slots : Nat} {Q : State → Prop}
variable {cc : ByteArray} {pc : Nat} {ls : Array Slot} {rest : List Value} {D : va_G} {ca : Nat → ClassId} {A : Nat → Prop} {own : String}
variable {y : MethodName} {bytes : ByteArray} {maxL index n mc ms : Nat} {ret : Option FieldType} {rm : Room} {w w' pre post W0 W1 : va_W} {o : Option Value} {As : List Value} {b : Nat} {st0 : List Value} {φ : Prop} {ψ : String → Prop}
theorem k_run (hr : va_Run p l e R s m args below meth c H locs cells slots mc ms (F0 m pc ls st0) rest (KQ D w' o (va_A w H.size) As.toArray) (va_A w H.size))
    (hI : KI D A W0 s.heap H locs) (e0 : W0 = pre ++ (w ++ post)) (e1 : W1 = pre ++ (w' ++ post)) (had : w'.map Prod.fst = w.map Prod.fst)
    (kk : ∀ H1 locs1, KI D A W1 s.heap H1 locs1 → W p l e R s m args below meth c H1 locs1 (cells + mc) (slots + ms) Q (F0 m (pc + 3) ls (o.toList ++ rest))) : W p l e R s m args below meth c H locs cells slots Q (F0 m pc ls st0) := by
  subst e0 e1
  obtain ⟨hP, hD, hS, hA⟩ := hI
  have hF := kf_free hD hS hA
  intro T hT X
  obtain ⟨v, st₀, t, T', L, h0, X', hL, e1, e2, ⟨hv, hP1, hz, hk⟩, st⟩ := hr T hT X
  have hv : v = o := by injection hv
  subst hv
  rw [h0] at hz hk
  have hk1 : ∀ q : Nat, q < H.size → ¬ va_A w H.size q → T'.heap[q]? = H[q]? := fun q h1 h2 => by rw [e1]; exact hk q h1 h2
  have hz1 : H.size ≤ T'.heap.size := by rw [e1]; exact hz
  obtain ⟨t2, a1, b1⟩ := kk T'.heap (locs ++ L) ⟨kf_P hP hD hk1 (by rw [e1]; exact hP1), kf_Dw had hD, ⟨Nat.le_trans hS.1 hz1, fun q h1 h2 => by rw [hk1 q (Nat.lt_of_lt_of_le h1 hS.1) (fun z => h2 (hF q z))]; exact hS.2.1 q h1 h2, fun q hq => by
      rcases List.mem_append.mp hq with h | h
      · exact hS.2.2 q h
      · exact hF _ (hL q h)⟩, hA⟩ T' rfl X'
  exact ⟨t2, st t2 a1, b1⟩
theorem k_preV (hK : va_K D vwCl (ktys ca) s) (hP : va_P D vwCl w H) (hD : va_D A w) {ci : Nat} {q : vw_C} {fs : List Value} (hc : vwCl[ci]? = some q) (he : w[0]? = some (b, .inr (ci, fs))) : PreV s H q.1 b (KP D ca w (.ref b :: As) H.size) As :=
  ⟨KP.blind, va_recv hK hP hc he, fun U hU hW => ⟨rfl, by rw [hU], by rw [hU]; exact hP, va_K.moved hW.alike hK, hD.weaken (fun _ _ _ _ => trivial)⟩⟩
theorem k_preS (hK : va_K D vwCl (ktys ca) s) (hP : va_P D vwCl w H) (hD : va_D A w) : PreS s H (KP D ca w As H.size) As :=
  ⟨KP.blind, fun U hU hW => ⟨rfl, by rw [hU], by rw [hU]; exact hP, va_K.moved hW.alike hK, hD.weaken (fun _ _ _ _ => trivial)⟩⟩
theorem k_preVE (hK : va_K D vwCl (ktys ca) s) (hP : va_P D vwCl w H) (hD : va_D A w) (hE : KE A s s.heap) (hS : va_S A s.heap H locs) (hF : ∀ q, va_A w H.size q → A q) {ci : Nat} {q : vw_C} {fs : List Value} (hc : vwCl[ci]? = some q) (he : w[0]? = some (b, .inr (ci, fs))) : PreV s H q.1 b (KPE D ca w (.ref b :: As) H.size) As :=
  ⟨KPE.blind, va_recv hK hP hc he, fun U hU hW => ⟨rfl, by rw [hU], by rw [hU]; exact hP, va_K.moved hW.alike hK, hD.weaken (fun _ _ _ _ => trivial), by rw [hU]; exact KE.to hW hS.2.1 hF hE⟩⟩
theorem k_preSE (hK : va_K D vwCl (ktys ca) s) (hP : va_P D vwCl w H) (hD : va_D A w) (hE : KE A s s.heap) (hS : va_S A s.heap H locs) (hF : ∀ q, va_A w H.size q → A q) : PreS s H (KPE D ca w As H.size) As :=
  ⟨KPE.blind, fun U hU hW => ⟨rfl, by rw [hU], by rw [hU]; exact hP, va_K.moved hW.alike hK, hD.weaken (fun _ _ _ _ => trivial), by rw [hU]; exact KE.to hW hS.2.1 hF hE⟩⟩
/-- a call of a method of an object, the rest of the world around it -/
theorem k_callV (n : Nat) (pre post : va_W) {C : String} {T : u_T} {N ci : Nat} {fs : List Value} (cx : KC p c cc s args m own D ca) (hls : ls.size = c.maxLocals) (hM : CM l y bytes maxL ret rm D ca w (.ref b :: As) o w')
    (hI : KI D A W0 s.heap H locs) (e0 : W0 = pre ++ (w ++ post)) (e1 : W1 = pre ++ (w' ++ post)) (had : w'.map Prod.fst = w.map Prod.fst)
    (hc : vwCl[ci]? = some (C, T, N)) (he : w[0]? = some (b, .inr (ci, fs)))
    (h0 : Cond.code y bytes maxL ret ∈ WL) (h1 : Cond.methodLink own index y ∈ WL) (h2 : Cond.instanceMethod y ∈ WL) (h3 : Cond.selects C y y ∈ WL) (h4 : Cond.initialized C ∈ WL)
    (hd : y.cls = C ∧ y.cls ≠ "java/lang/invoke/MethodHandle" ∧ y.cls ≠ "java/lang/invoke/VarHandle" ∧ (parseMethodDescriptor y.desc).map (fun d => d.parameters.length) = some n) (hn : As.length = n)
    (hrm : rm.cells = 0 ∧ rm.slots = 0) (hR : rm.frames + 1 ≤ R.frames ∧ 8 + (maxL + 11) + rm.locals ≤ R.locals) (hW : (rest.map fun v => v.category).sum ≤ 8) (hdg : decode cc pc = .ok (.invokevirtual index, 3)) (hf : cells ≤ R.cells ∧ slots ≤ R.slots)
    (hst : st0 = As.reverse ++ .ref b :: rest) (kk : ∀ H1 locs1, KI D A W1 s.heap H1 locs1 → W p l e R s m args below meth c H1 locs1 cells slots Q (F0 m (pc + 3) ls (o.toList ++ rest))) : W p l e R s m args below meth c H locs cells slots Q (F0 m pc ls st0) := by
  obtain ⟨hP, hD, hS, hA⟩ := id hI
  rw [e0] at hP hD
  exact k_run (va_runV (As := As) (rest := rest) ⟨cx.1, cx.2.1, rfl, cx.2.2.1, cx.2.2.2.1⟩ (hM H.size) (cwV n cx.2.2.2.1 (wk_V h0 h1 h2 h3 h4) rfl hrm.1 hrm.2 hd hR) (k_preV cx.2.2.2.2 (kf_at hP) (kf_Dat hD) hc he) rfl hn hls hst (lv_room hW) hdg hf) hI e0 e1 had kk
/-- a call of a static method -/
theorem k_callS (n : Nat) (pre post : va_W) (cx : KC p c cc s args m own D ca) (hls : ls.size = c.maxLocals) (hM : CM l y bytes maxL ret rm D ca w As o w')
    (hI : KI D A W0 s.heap H locs) (e0 : W0 = pre ++ (w ++ post)) (e1 : W1 = pre ++ (w' ++ post)) (had : w'.map Prod.fst = w.map Prod.fst)
    (h0 : Cond.code y bytes maxL ret ∈ WL) (h1 : Cond.methodLink own index y ∈ WL) (h2 : Cond.static y ∈ WL) (h4 : Cond.initialized y.cls ∈ WL)
    (hd : y.cls ≠ "java/lang/invoke/MethodHandle" ∧ y.cls ≠ "java/lang/invoke/VarHandle" ∧ (parseMethodDescriptor y.desc).map (fun d => d.parameters.length) = some n) (hn : As.length = n)
    (hrm : rm.cells = 0 ∧ rm.slots = 0) (hR : rm.frames + 1 ≤ R.frames ∧ 8 + (maxL + 11) + rm.locals ≤ R.locals) (hW : (rest.map fun v => v.category).sum ≤ 8) (hdg : decode cc pc = .ok (.invokestatic index, 3)) (hf : cells ≤ R.cells ∧ slots ≤ R.slots)
    (hst : st0 = As.reverse ++ rest) (kk : ∀ H1 locs1, KI D A W1 s.heap H1 locs1 → W p l e R s m args below meth c H1 locs1 cells slots Q (F0 m (pc + 3) ls (o.toList ++ rest))) : W p l e R s m args below meth c H locs cells slots Q (F0 m pc ls st0) := by
  obtain ⟨hP, hD, hS, hA⟩ := id hI
  rw [e0] at hP hD
  exact k_run (va_runS (As := As) (rest := rest) ⟨cx.1, cx.2.1, rfl, cx.2.2.1, cx.2.2.2.1⟩ (hM H.size) (va_cwS n cx.2.2.2.1 (wk_S h0 h1 h2 h4) rfl hrm.1 hrm.2 hd hR) (k_preS cx.2.2.2.2 (kf_at hP) (kf_Dat hD)) rfl hn hls hst (lv_room hW) hdg hf) hI e0 e1 had kk
/-- a call of one of the law's methods with handlers -/
theorem k_callH (n : Nat) (pre post : va_W) {hh : List (Nat × Nat × Nat × Nat)} (cx : KC p c cc s args m own D ca) (hE : KE A s s.heap) (hls : ls.size = c.maxLocals) (hM : CH l y bytes maxL ret hh rm D ca w As o w')
    (hI : KI D A W0 s.heap H locs) (e0 : W0 = pre ++ (w ++ post)) (e1 : W1 = pre ++ (w' ++ post)) (had : w'.map Prod.fst = w.map Prod.fst)
    (h0 : Cond.codeWith y bytes maxL ret hh ∈ WL) (h1 : Cond.methodLink own index y ∈ WL) (h2 : Cond.static y ∈ WL) (h4 : Cond.initialized y.cls ∈ WL)
    (hd : y.cls ≠ "java/lang/invoke/MethodHandle" ∧ y.cls ≠ "java/lang/invoke/VarHandle" ∧ (parseMethodDescriptor y.desc).map (fun d => d.parameters.length) = some n) (hn : As.length = n)
    (hrm : rm.cells = 1 ∧ rm.slots = 6) (hR : rm.frames + 1 ≤ R.frames ∧ 8 + (maxL + 11) + rm.locals ≤ R.locals) (hW : (rest.map fun v => v.category).sum ≤ 8) (hdg : decode cc pc = .ok (.invokestatic index, 3)) (hf : cells + 1 ≤ R.cells ∧ slots + 6 ≤ R.slots)
    (hst : st0 = As.reverse ++ rest) (kk : ∀ H1 locs1, KI D A W1 s.heap H1 locs1 → W p l e R s m args below meth c H1 locs1 (cells + 1) (slots + 6) Q (F0 m (pc + 3) ls (o.toList ++ rest))) : W p l e R s m args below meth c H locs cells slots Q (F0 m pc ls st0) := by
  obtain ⟨hP, hD, hS, hA⟩ := id hI
  rw [e0] at hP hD
  exact k_run (vx_runSW (As := As) (rest := rest) ⟨cx.1, cx.2.1, rfl, cx.2.2.1, cx.2.2.2.1⟩ (hM H.size) (vx_cwSW n cx.2.2.2.1 (wk_S h0 h1 h2 h4) rfl hrm.1 hrm.2 hd hR) (k_preSE cx.2.2.2.2 (kf_at hP) (kf_Dat hD) hE hS (kf_free hD hS hA)) rfl hn hls hst (lv_room hW) hdg hf) hI e0 e1 had kk
/-- a call that may throw: kx is where it throws -/
theorem k_callX (n : Nat) (pre post : va_W) {C : String} {T : u_T} {N ci : Nat} {fs : List Value} (cx : KC p c cc s args m own D ca) (hE : KE A s s.heap) (hls : ls.size = c.maxLocals) (hM : CX l y bytes maxL ret rm D ca w (.ref b :: As) φ o w' ψ)
    (hI : KI D A W0 s.heap H locs) (e0 : W0 = pre ++ (w ++ post)) (e1 : W1 = pre ++ (w' ++ post)) (had : w'.map Prod.fst = w.map Prod.fst)
    (hc : vwCl[ci]? = some (C, T, N)) (he : w[0]? = some (b, .inr (ci, fs)))
    (h0 : Cond.code y bytes maxL ret ∈ WL) (h1 : Cond.methodLink own index y ∈ WL) (h2 : Cond.instanceMethod y ∈ WL) (h3 : Cond.selects C y y ∈ WL) (h4 : Cond.initialized C ∈ WL)
    (hd : y.cls = C ∧ y.cls ≠ "java/lang/invoke/MethodHandle" ∧ y.cls ≠ "java/lang/invoke/VarHandle" ∧ (parseMethodDescriptor y.desc).map (fun d => d.parameters.length) = some n) (hn : As.length = n)
    (hrm : rm.cells = 1 ∧ rm.slots = 6) (hR : rm.frames + 1 ≤ R.frames ∧ 8 + (maxL + 11) + rm.locals ≤ R.locals) (hW : (rest.map fun v => v.category).sum ≤ 8) (hdg : decode cc pc = .ok (.invokevirtual index, 3)) (hf : cells + 1 ≤ R.cells ∧ slots + 6 ≤ R.slots)
    (hst : st0 = As.reverse ++ .ref b :: rest)
    (kx : ∀ E ce q9 H1 locs1, ψ E → KI D A W0 s.heap H1 locs1 → H1[q9]? = some ce → ce.vm = .none → s.vm.findClass E = some ce.cls → vx_W p l e R s m args below meth c H1 locs1 (cells + 1) (slots + 6) Q (F0 m pc ls rest) q9)
    (kk : φ → ∀ H1 locs1, KI D A W1 s.heap H1 locs1 → W p l e R s m args below meth c H1 locs1 (cells + 1) (slots + 6) Q (F0 m (pc + 3) ls (o.toList ++ rest))) : W p l e R s m args below meth c H locs cells slots Q (F0 m pc ls st0) := by
  subst e0 e1
  obtain ⟨hP, hD, hS, hA⟩ := hI
  have hF := kf_free hD hS hA
  have hr := vx_runV (e := e) (below := below) (meth := meth) (locs := locs) (As := As) (rest := rest) ⟨cx.1, cx.2.1, rfl, cx.2.2.1, cx.2.2.2.1⟩ (hM H.size) (cwV n cx.2.2.2.1 (wk_V h0 h1 h2 h3 h4) rfl hrm.1 hrm.2 hd hR) (k_preVE cx.2.2.2.2 (kf_at hP) (kf_Dat hD) hE hS hF hc he) (g := F0 m pc ls st0) rfl hn hls hst (lv_room hW) hdg hf
  intro T hT X
  rcases hr T hT X with ⟨v, st₀, t, T', L, h0, X', hL, e1, e2, ⟨hφ, hv, hP1, hz, hk⟩, st⟩ | ⟨q, st₀, t, T', L, E, ce, h0, X', hL, e1, e2, ⟨hψ, hP1, hz, hk⟩, hce, hcv, hcl, st⟩
  · have hv : v = o := by injection hv
    subst hv
    rw [h0] at hz hk
    have hk1 : ∀ q : Nat, q < H.size → ¬ va_A w H.size q → T'.heap[q]? = H[q]? := fun q h1 h2 => by rw [e1]; exact hk q h1 h2
    have hz1 : H.size ≤ T'.heap.size := by rw [e1]; exact hz
    obtain ⟨t2, a1, b1⟩ := kk hφ T'.heap (locs ++ L) ⟨kf_P hP hD hk1 (by rw [e1]; exact hP1), kf_Dw had hD, ⟨Nat.le_trans hS.1 hz1, fun q h1 h2 => by rw [hk1 q (Nat.lt_of_lt_of_le h1 hS.1) (fun z => h2 (hF q z))]; exact hS.2.1 q h1 h2, fun q hq => by
        rcases List.mem_append.mp hq with h | h
        · exact hS.2.2 q h
        · exact hF _ (hL q h)⟩, hA⟩ T' rfl X'
    exact ⟨t2, st t2 a1, b1⟩
  · rw [h0] at hz hk
    have hk1 : ∀ q : Nat, q < H.size → ¬ va_A w H.size q → T'.heap[q]? = H[q]? := fun q h1 h2 => by rw [e1]; exact hk q h1 h2
    have hz1 : H.size ≤ T'.heap.size := by rw [e1]; exact hz
    obtain ⟨t2, a1, b1⟩ := kx E ce q T'.heap (locs ++ L) hψ ⟨kf_P hP hD hk1 (by rw [e1]; exact hP1), hD, ⟨Nat.le_trans hS.1 hz1, fun q h1 h2 => by rw [hk1 q (Nat.lt_of_lt_of_le h1 hS.1) (fun z => h2 (hF q z))]; exact hS.2.1 q h1 h2, fun q hq => by
        rcases List.mem_append.mp hq with h | h
        · exact hS.2.2 q h
        · exact hF _ (hL q h)⟩, hA⟩ (by rw [e1]; exact hce) hcv hcl T' rfl X'
    exact ⟨t2, st.trans a1, b1⟩
end KCALL
section KEND
variable {p : Program} {l : Launch} {e : Env} {R : Room} {s : State} {m : MethodId} {args : Array Value} {below : List Frame} {meth : Method} {c : Code} {H : Heap} {locs : List Loc} {cells slots mc ms : Nat}
variable {cc : ByteArray} {pc : Nat} {ls : Array Slot} {D : va_G} {ca : Nat → ClassId} {A : Nat → Prop} {own : String} {w1 w' : va_W} {o : Option Value} {φ : Prop} {XC : String → State → State → Prop}
theorem ke_i {v : Int32} (cx : KC p c cc s args m own D ca) (hr : meth.sig.returnType = some .int) (hlk : meth.locks = false) (hI : KI D A w1 s.heap H locs) (hc : cells ≤ mc) (hs : slots ≤ ms) (hdg : decode cc pc = .ok (.ireturn, 1)) (eo : some (.int v) = o) (ew : w1 = w') :
    W p l e R s m args below meth c H locs cells slots (MQ below (KQ D w' o A) args s mc ms A) (F0 m pc ls [.int v]) := by
  subst eo ew
  refine W.widen hc hs ?_
  exact W.iret cx.1 cx.2.1 hr (fun t ht hW => ⟨rfl, by rw [ht]; exact hI.1, hI.2.2.1.F ht⟩) hI.2.2.1.2.2 hdg hlk
theorem ke_z {v : Int32} (cx : KC p c cc s args m own D ca) (hr : meth.sig.returnType = some .boolean) (hlk : meth.locks = false) (hI : KI D A w1 s.heap H locs) (hc : cells ≤ mc) (hs : slots ≤ ms) (hdg : decode cc pc = .ok (.ireturn, 1)) (hn : narrow .boolean (.int v) = .int v) (eo : some (.int v) = o) (ew : w1 = w') :
    W p l e R s m args below meth c H locs cells slots (MQ below (KQ D w' o A) args s mc ms A) (F0 m pc ls [.int v]) := by
  subst eo ew
  refine W.widen hc hs ?_
  exact W.zret cx.1 cx.2.1 hr hn (fun t ht hW => ⟨rfl, by rw [ht]; exact hI.1, hI.2.2.1.F ht⟩) hI.2.2.1.2.2 hdg hlk
theorem ke_v (cx : KC p c cc s args m own D ca) (hr : meth.sig.returnType = none) (hlk : meth.locks = false) (hI : KI D A w1 s.heap H locs) (hc : cells ≤ mc) (hs : slots ≤ ms) (hdg : decode cc pc = .ok (.return_, 1)) (eo : none = o) (ew : w1 = w') :
    W p l e R s m args below meth c H locs cells slots (MQ below (KQ D w' o A) args s mc ms A) (F0 m pc ls []) := by
  subst eo ew
  refine W.widen hc hs ?_
  exact W.vret cx.1 cx.2.1 hr (fun t ht hW => ⟨rfl, by rw [ht]; exact hI.1, hI.2.2.1.F ht⟩) hI.2.2.1.2.2 hdg hlk
/-- the end of a method that may throw, where it returns -/
theorem ke_x {g : JFrame} {Qc : Array Value → State → Outcome → State → Prop} (hφ : φ) (k : W p l e R s m args below meth c H locs cells slots (MQ below Qc args s mc ms A) g) : W p l e R s m args below meth c H locs cells slots (vx_MQ below (fun a st oc t => φ ∧ Qc a st oc t) XC args s mc ms A) g := by
  refine vx_ret ?_
  intro T hT X
  obtain ⟨t, a1, o, b1, b2, b3, b4⟩ := k T hT X
  exact ⟨t, a1, o, b1, b2, ⟨hφ, b3⟩, b4⟩
end KEND
end
section
/-! MINE: rows of branches on an answer of truth, of loops, of columns. -/
def b2i (b : Bool) : Int32 := if b then 1 else 0
theorem b2i_t : b2i true = 1 := rfl
theorem b2i_f : b2i false = 0 := rfl
theorem b2i_nar (b : Bool) : narrow .boolean (.int (b2i b)) = .int (b2i b) := by cases b <;> rfl
theorem b2i_vp (b : Bool) : vp_nar .boolean (b2i b) = b2i b := by cases b <;> rfl
abbrev KR (f n : Nat) : Room := { frames := f, cells := 0, slots := 0, locals := n }
abbrev KR1 (f n : Nat) : Room := { frames := f, cells := 1, slots := 6, locals := n }
section KB
variable {p : Program} {l : Launch} {e : Env} {R : Room} {s : State} {m : MethodId} {args : Array Value} {below : List Frame} {meth : Method} {c : Code} {H : Heap} {locs : List Loc} {cells slots : Nat} {Q : State → Prop}
variable {cc : ByteArray} {pc : Nat} {ls : Array Slot} {rest : List Value} {D : va_G} {ca : Nat → ClassId} {A : Nat → Prop} {ad : Nat → Nat} {own : String}
theorem kb_eq (cx : KC p c cc s args m own D ca) {b : Bool} {off : Int} {tgt : Nat} (hdg : decode cc pc = .ok (.ifCond .eq off, 3)) (ht : (pc : Int) + off = (tgt : Int)) (kt : b = false → W p l e R s m args below meth c H locs cells slots Q (F0 m tgt ls rest)) (kf : b = true → W p l e R s m args below meth c H locs cells slots Q (F0 m (pc + 3) ls rest)) : W p l e R s m args below meth c H locs cells slots Q (F0 m pc ls (.int (b2i b) :: rest)) := by
  refine lv_if_eq cx.1 cx.2.1 hdg ht (fun h => kt ?_) (fun h => kf ?_)
  · cases b
    · rfl
    · exact absurd h (by decide)
  · cases b
    · exact absurd rfl h
    · rfl
theorem kb_ne (cx : KC p c cc s args m own D ca) {b : Bool} {off : Int} {tgt : Nat} (hdg : decode cc pc = .ok (.ifCond .ne off, 3)) (ht : (pc : Int) + off = (tgt : Int)) (kt : b = true → W p l e R s m args below meth c H locs cells slots Q (F0 m tgt ls rest)) (kf : b = false → W p l e R s m args below meth c H locs cells slots Q (F0 m (pc + 3) ls rest)) : W p l e R s m args below meth c H locs cells slots Q (F0 m pc ls (.int (b2i b) :: rest)) := by
  refine lv_if_ne cx.1 cx.2.1 hdg ht (fun h => kt ?_) (fun h => kf ?_)
  · cases b
    · exact absurd rfl h
    · rfl
  · cases b
    · rfl
    · exact absurd h (by decide)
/-- a joined value, by its name -/
theorem k_top {x y : Int32} {pc1 : Nat} (h : x = y) (k : W p l e R s m args below meth c H locs cells slots Q (F0 m pc1 ls (.int y :: rest))) : W p l e R s m args below meth c H locs cells slots Q (F0 m pc1 ls (.int x :: rest)) := by rw [h]; exact k
/-- two roads that meet at pc2 -/
theorem k_join {pc1 : Nat} {st1 : List Value} (pc2 : Nat) (w2 : va_W) (st2 : List Value) (hj : ∀ (H : Heap) (locs : List Loc), KI D A w2 s.heap H locs → W p l e R s m args below meth c H locs cells slots Q (F0 m pc2 ls st2))
    (k : (∀ (H : Heap) (locs : List Loc), KI D A w2 s.heap H locs → W p l e R s m args below meth c H locs cells slots Q (F0 m pc2 ls st2)) → W p l e R s m args below meth c H locs cells slots Q (F0 m pc1 ls st1)) : W p l e R s m args below meth c H locs cells slots Q (F0 m pc1 ls st1) := k hj
/-- a loop of N turns -/
theorem k_loop (N : Nat) {ml head : Nat} (wF : Nat → va_W) (lF : Nat → List (Nat × Value)) (hI : KI D A (wF 0) s.heap H locs) (hl : lv_has ls ml (lF 0))
    (hx : ∀ H locs ls, KI D A (wF N) s.heap H locs → lv_has ls ml (lF N) → W p l e R s m args below meth c H locs cells slots Q (F0 m head ls rest))
    (hs : ∀ i, i < N → ∀ H locs ls, KI D A (wF i) s.heap H locs → lv_has ls ml (lF i) → (∀ H locs ls, KI D A (wF (i + 1)) s.heap H locs → lv_has ls ml (lF (i + 1)) → W p l e R s m args below meth c H locs cells slots Q (F0 m head ls rest)) → W p l e R s m args below meth c H locs cells slots Q (F0 m head ls rest)) :
    W p l e R s m args below meth c H locs cells slots Q (F0 m head ls rest) := by
  have go : ∀ (n i : Nat), i + n = N → ∀ H locs ls, KI D A (wF i) s.heap H locs → lv_has ls ml (lF i) → W p l e R s m args below meth c H locs cells slots Q (F0 m head ls rest) := by
    intro n
    induction n with
    | zero =>
      intro i hi H locs ls hI hl
      have : i = N := by omega
      subst this
      exact hx H locs ls hI hl
    | succ n ih =>
      intro i hi H locs ls hI hl
      exact hs i (by omega) H locs ls hI hl (fun H locs ls hI hl => ih (i + 1) (by omega) H locs ls hI hl)
  exact go N 0 (by omega) H locs ls hI hl
/-- the column c of the shadow, as the cells have it -/
def xC (v : XS) (c : Nat) : Nat → Int32 := match c with
  | 0 => xC0 v
  | 1 => xC1 v
  | _ => xC2 v
def xUC (v : XS) (c : Nat) (f : Nat → Int32) : XS := match c with
  | 0 => xUC0 v f
  | 1 => xUC1 v f
  | _ => xUC2 v f
theorem k3 {c0 : Int32} (h : vp_in c0 3) : c0.toNatClampNeg = 0 ∨ c0.toNatClampNeg = 1 ∨ c0.toNatClampNeg = 2 := by
  have hlt : c0.toNatClampNeg < 3 := Nat.not_le.mp fun q => h (Or.inr q)
  omega
theorem xa_col {v : XS} (cx : KC p c cc s args m RX0 D ca) (hI : KI D A (xw ad ca v) s.heap H locs) {c0 i : Int32} (hc : vp_in c0 3) {j : Nat} (hj : c0.toNatClampNeg = j) (hin : vp_in i 40) (hdg : decode cc pc = .ok (.iaload, 1)) (k : W p l e R s m args below meth c H locs cells slots Q (F0 m (pc + 1) ls (.int (xC v j i.toNatClampNeg) :: rest))) : W p l e R s m args below meth c H locs cells slots Q (F0 m pc ls (.int i :: .ref (ad (4 + c0.toNatClampNeg)) :: rest)) := by
  subst hj
  rcases k3 hc with h | h | h <;> rw [h] at k ⊢
  · exact xa_C0 cx hI hin hdg k
  · exact xa_C1 cx hI hin hdg k
  · exact xa_C2 cx hI hin hdg k
theorem xs_col {v : XS} (cx : KC p c cc s args m RX0 D ca) (hI : KI D A (xw ad ca v) s.heap H locs) {c0 i y : Int32} (hc : vp_in c0 3) {j : Nat} (hj : c0.toNatClampNeg = j) (hin : vp_in i 40) (hdg : decode cc pc = .ok (.iastore, 1)) (k : ∀ (H : Heap) (locs : List Loc), KI D A (xw ad ca (xUC v j (upd (xC v j) i.toNatClampNeg y))) s.heap H locs → W p l e R s m args below meth c H locs cells slots Q (F0 m (pc + 1) ls rest)) : W p l e R s m args below meth c H locs cells slots Q (F0 m pc ls (.int y :: .int i :: .ref (ad (4 + c0.toNatClampNeg)) :: rest)) := by
  subst hj
  rcases k3 hc with h | h | h <;> rw [h] at k ⊢
  · exact xs_C0 cx hI hin hdg k
  · exact xs_C1 cx hI hin hdg k
  · exact xs_C2 cx hI hin hdg k
/-- how many columns there are -/
theorem xl_cols {v : XS} (cx : KC p c cc s args m RX0 D ca) (hI : KI D A (xw ad ca v) s.heap H locs) (hdg : decode cc pc = .ok (.arraylength, 1)) (k : W p l e R s m args below meth c H locs cells slots Q (F0 m (pc + 1) ls (.int 3 :: rest))) : W p l e R s m args below meth c H locs cells slots Q (F0 m pc ls (.ref (ad 3) :: rest)) :=
  va_alen cx.1 cx.2.1 cx.2.2.2.2 hI.1 3 2 rfl rfl rfl hdg k
theorem vp0 {n : Nat} (h : 0 < n) (hn : n < 2 ^ 31) : vp_in 0 n := vp_in_nI h hn
theorem vp1 {n : Nat} (h : 1 < n) (hn : n < 2 ^ 31) : vp_in 1 n := vp_in_nI h hn
theorem vp2 {n : Nat} (h : 2 < n) (hn : n < 2 ^ 31) : vp_in 2 n := vp_in_nI h hn
end KB
end
section
/-! MINE: calls within one world, in short. -/
theorem kn0 (w : va_W) : w = [] ++ (w ++ []) := (List.append_nil w).symm
theorem kn1 (w : va_W) : w = w ++ ([] ++ []) := (List.append_nil w).symm
theorem xw_ad {ad : Nat → Nat} {ca : Nat → ClassId} {v v' : XS} : (xw ad ca v').map Prod.fst = (xw ad ca v).map Prod.fst := rfl
theorem mw_ad {ad : Nat → Nat} {ca : Nat → ClassId} {v v' : MS} : (mw ad ca v').map Prod.fst = (mw ad ca v).map Prod.fst := rfl
section KC2
variable {p : Program} {l : Launch} {e : Env} {R : Room} {s : State} {m : MethodId} {args : Array Value} {below : List Frame} {meth : Method} {c : Code} {H : Heap} {locs : List Loc} {cells slots : Nat} {Q : State → Prop}
variable {cc : ByteArray} {pc : Nat} {ls : Array Slot} {rest : List Value} {D : va_G} {ca : Nat → ClassId} {A : Nat → Prop} {ad : Nat → Nat} {own : String}
variable {y : MethodName} {bytes : ByteArray} {maxL index nL : Nat} {ret : Option FieldType} {rm : Room} {As : List Value} {st0 : List Value} {r : Int32} {W0 : va_W}
theorem xc_i (n : Nat) {v v' : XS} (cx : KC p c cc s args m own D ca) (hls : ls.size = c.maxLocals) (hM : CM l y bytes maxL ret rm D ca (xw ad ca v) (.ref (ad 0) :: As) (some (.int r)) (xw ad ca v')) (hI : KI D A (xw ad ca v) s.heap H locs)
    (h0 : Cond.code y bytes maxL ret ∈ WL) (h1 : Cond.methodLink own index y ∈ WL) (h2 : Cond.instanceMethod y ∈ WL) (h3 : Cond.selects RX0 y y ∈ WL)
    (hd : y.cls = RX0 ∧ (parseMethodDescriptor y.desc).map (fun d => d.parameters.length) = some n) (hn : As.length = n) (hrm : rm.cells = 0 ∧ rm.slots = 0) (hR : rm.frames + 1 ≤ R.frames ∧ 8 + (maxL + 11) + rm.locals ≤ R.locals) (hW : (rest.map fun v => v.category).sum ≤ 8) (hdg : decode cc pc = .ok (.invokevirtual index, 3)) (hf : cells ≤ R.cells ∧ slots ≤ R.slots)
    (hst : st0 = As.reverse ++ .ref (ad 0) :: rest) (kk : ∀ H1 locs1, KI D A (xw ad ca v') s.heap H1 locs1 → W p l e R s m args below meth c H1 locs1 cells slots Q (F0 m (pc + 3) ls (.int r :: rest))) : W p l e R s m args below meth c H locs cells slots Q (F0 m pc ls st0) :=
  k_callV (C := RX0) (T := TX0) (N := 12) (ci := 0) n [] [] cx hls hM hI (kn0 _) (kn0 _) xw_ad rfl rfl h0 h1 h2 h3 wk_1 ⟨hd.1, by rw [hd.1]; decide, by rw [hd.1]; decide, hd.2⟩ hn hrm hR hW hdg hf hst kk
theorem xc_v (n : Nat) {v v' : XS} (cx : KC p c cc s args m own D ca) (hls : ls.size = c.maxLocals) (hM : CM l y bytes maxL ret rm D ca (xw ad ca v) (.ref (ad 0) :: As) none (xw ad ca v')) (hI : KI D A (xw ad ca v) s.heap H locs)
    (h0 : Cond.code y bytes maxL ret ∈ WL) (h1 : Cond.methodLink own index y ∈ WL) (h2 : Cond.instanceMethod y ∈ WL) (h3 : Cond.selects RX0 y y ∈ WL)
    (hd : y.cls = RX0 ∧ (parseMethodDescriptor y.desc).map (fun d => d.parameters.length) = some n) (hn : As.length = n) (hrm : rm.cells = 0 ∧ rm.slots = 0) (hR : rm.frames + 1 ≤ R.frames ∧ 8 + (maxL + 11) + rm.locals ≤ R.locals) (hW : (rest.map fun v => v.category).sum ≤ 8) (hdg : decode cc pc = .ok (.invokevirtual index, 3)) (hf : cells ≤ R.cells ∧ slots ≤ R.slots)
    (hst : st0 = As.reverse ++ .ref (ad 0) :: rest) (kk : ∀ H1 locs1, KI D A (xw ad ca v') s.heap H1 locs1 → W p l e R s m args below meth c H1 locs1 cells slots Q (F0 m (pc + 3) ls rest)) : W p l e R s m args below meth c H locs cells slots Q (F0 m pc ls st0) :=
  k_callV (C := RX0) (T := TX0) (N := 12) (ci := 0) n [] [] cx hls hM hI (kn0 _) (kn0 _) xw_ad rfl rfl h0 h1 h2 h3 wk_1 ⟨hd.1, by rw [hd.1]; decide, by rw [hd.1]; decide, hd.2⟩ hn hrm hR hW hdg hf hst kk
theorem mc_i (n : Nat) {v v' : MS} (cx : KC p c cc s args m own D ca) (hls : ls.size = c.maxLocals) (hM : CM l y bytes maxL ret rm D ca (mw ad ca v) (.ref (ad 0) :: As) (some (.int r)) (mw ad ca v')) (hI : KI D A (mw ad ca v) s.heap H locs)
    (h0 : Cond.code y bytes maxL ret ∈ WL) (h1 : Cond.methodLink own index y ∈ WL) (h2 : Cond.instanceMethod y ∈ WL) (h3 : Cond.selects RX1 y y ∈ WL)
    (hd : y.cls = RX1 ∧ (parseMethodDescriptor y.desc).map (fun d => d.parameters.length) = some n) (hn : As.length = n) (hrm : rm.cells = 0 ∧ rm.slots = 0) (hR : rm.frames + 1 ≤ R.frames ∧ 8 + (maxL + 11) + rm.locals ≤ R.locals) (hW : (rest.map fun v => v.category).sum ≤ 8) (hdg : decode cc pc = .ok (.invokevirtual index, 3)) (hf : cells ≤ R.cells ∧ slots ≤ R.slots)
    (hst : st0 = As.reverse ++ .ref (ad 0) :: rest) (kk : ∀ H1 locs1, KI D A (mw ad ca v') s.heap H1 locs1 → W p l e R s m args below meth c H1 locs1 cells slots Q (F0 m (pc + 3) ls (.int r :: rest))) : W p l e R s m args below meth c H locs cells slots Q (F0 m pc ls st0) :=
  k_callV (C := RX1) (T := TX1) (N := 13) (ci := 1) n [] [] cx hls hM hI (kn0 _) (kn0 _) mw_ad rfl rfl h0 h1 h2 h3 wk_3 ⟨hd.1, by rw [hd.1]; decide, by rw [hd.1]; decide, hd.2⟩ hn hrm hR hW hdg hf hst kk
theorem mc_v (n : Nat) {v v' : MS} (cx : KC p c cc s args m own D ca) (hls : ls.size = c.maxLocals) (hM : CM l y bytes maxL ret rm D ca (mw ad ca v) (.ref (ad 0) :: As) none (mw ad ca v')) (hI : KI D A (mw ad ca v) s.heap H locs)
    (h0 : Cond.code y bytes maxL ret ∈ WL) (h1 : Cond.methodLink own index y ∈ WL) (h2 : Cond.instanceMethod y ∈ WL) (h3 : Cond.selects RX1 y y ∈ WL)
    (hd : y.cls = RX1 ∧ (parseMethodDescriptor y.desc).map (fun d => d.parameters.length) = some n) (hn : As.length = n) (hrm : rm.cells = 0 ∧ rm.slots = 0) (hR : rm.frames + 1 ≤ R.frames ∧ 8 + (maxL + 11) + rm.locals ≤ R.locals) (hW : (rest.map fun v => v.category).sum ≤ 8) (hdg : decode cc pc = .ok (.invokevirtual index, 3)) (hf : cells ≤ R.cells ∧ slots ≤ R.slots)
    (hst : st0 = As.reverse ++ .ref (ad 0) :: rest) (kk : ∀ H1 locs1, KI D A (mw ad ca v') s.heap H1 locs1 → W p l e R s m args below meth c H1 locs1 cells slots Q (F0 m (pc + 3) ls rest)) : W p l e R s m args below meth c H locs cells slots Q (F0 m pc ls st0) :=
  k_callV (C := RX1) (T := TX1) (N := 13) (ci := 1) n [] [] cx hls hM hI (kn0 _) (kn0 _) mw_ad rfl rfl h0 h1 h2 h3 wk_3 ⟨hd.1, by rw [hd.1]; decide, by rw [hd.1]; decide, hd.2⟩ hn hrm hR hW hdg hf hst kk
/-- a static method without a world of its own -/
theorem ks_i (n : Nat) (cx : KC p c cc s args m own D ca) (hls : ls.size = c.maxLocals) (hM : CM l y bytes maxL ret rm D ca [] As (some (.int r)) []) (hI : KI D A W0 s.heap H locs)
    (h0 : Cond.code y bytes maxL ret ∈ WL) (h1 : Cond.methodLink own index y ∈ WL) (h2 : Cond.static y ∈ WL) (h4 : Cond.initialized y.cls ∈ WL)
    (hd : y.cls ≠ "java/lang/invoke/MethodHandle" ∧ y.cls ≠ "java/lang/invoke/VarHandle" ∧ (parseMethodDescriptor y.desc).map (fun d => d.parameters.length) = some n) (hn : As.length = n) (hrm : rm.cells = 0 ∧ rm.slots = 0) (hR : rm.frames + 1 ≤ R.frames ∧ 8 + (maxL + 11) + rm.locals ≤ R.locals) (hW : (rest.map fun v => v.category).sum ≤ 8) (hdg : decode cc pc = .ok (.invokestatic index, 3)) (hf : cells ≤ R.cells ∧ slots ≤ R.slots)
    (hst : st0 = As.reverse ++ rest) (kk : ∀ H1 locs1, KI D A W0 s.heap H1 locs1 → W p l e R s m args below meth c H1 locs1 cells slots Q (F0 m (pc + 3) ls (.int r :: rest))) : W p l e R s m args below meth c H locs cells slots Q (F0 m pc ls st0) :=
  k_callS n W0 [] cx hls hM hI (kn1 _) (kn1 _) rfl h0 h1 h2 h4 hd hn hrm hR hW hdg hf hst kk
end KC2
end
section
/-! MINE: 'throw new E(text)' in the class: one row. -/
def knames : List String := ["java/lang/RuntimeException", "java/lang/Exception"]
section KTHROW
variable {p : Program} {l : Launch} {e : Env} {R : Room} {s : State} {m : MethodId} {args : Array Value} {below : List Frame} {meth : Method} {c : Code} {H : Heap} {locs : List Loc}
variable {cc : ByteArray} {pc : Nat} {ls : Array Slot} {rest : List Value} {D : va_G} {ca : Nat → ClassId} {A : Nat → Prop} {w : va_W} {ψ : String → Prop} {Qc : Array Value → State → Outcome → State → Prop}
theorem kt_X {E : String} {t : State} (hψ : ψ E) (hI : KI D A w s.heap H locs) (h1 : H.size ≤ t.heap.size) (h2 : ∀ q : Nat, q < H.size → t.heap[q]? = H[q]?) : KX D w ψ A E s t := by
  obtain ⟨hP, hD, hS, hA⟩ := hI
  refine ⟨hψ, hP.kept (fun k q hk => h2 q.1 (hP k q hk).lt), Nat.le_trans hS.1 h1, fun q hq hn => ?_⟩
  rw [h2 q (Nat.lt_of_lt_of_le hq hS.1)]
  exact hS.2.1 q hq hn
theorem kt_std {cls text : String} {ik is ic : Nat} (cx : KC p c cc s args m RX0 D ca) (hlS : l.stackTraces = false) (hlk : meth.locks = false) (htab : ∀ x ∈ c.exceptionTable.toList, False) (hE : KE A s s.heap) (hI : KI D A w s.heap H locs) (hls : ls.size = c.maxLocals)
    (hcls : Bundle.fit cls = true) (hk : Cond.classLink RX0 ik cls ∈ WL) (hini : Cond.initialized cls ∈ WL) (hstr : (is, text) ∈ kstrs) (hat : ∀ w ∈ (vx_atS RX0 ic cls knames).filter goodWord, w ∈ WL) (hbad : ∀ w ∈ (vx_atS RX0 ic cls knames).filter (fun w => !goodWord w), w ∈ kws) (hgood : ∀ w ∈ vx_atS RX0 ic cls knames, vx_ot w = true)
    (d0 : decode cc pc = .ok (.new ik, 3)) (d3 : decode cc (pc + 3) = .ok (.dup, 1)) (d4 : decode cc (pc + 4) = .ok (.ldc is, 2)) (d6 : decode cc (pc + 6) = .ok (.invokespecial ic, 3)) (d9 : decode cc (pc + 9) = .ok (.athrow, 1))
    (hR : 6 ≤ R.frames ∧ (rest.map fun v => v.category).sum + 82 ≤ R.locals) (hc : 1 ≤ R.cells ∧ 6 ≤ R.slots) (hψ : ψ cls) :
    W p l e R s m args below meth c H locs 0 0 (vx_MQ below Qc (KX D w ψ A) args s 1 6 A) (F0 m pc ls rest) := by
  obtain ⟨sa, hsa⟩ := hE.2.2.1 _ hstr
  have hw : ∀ w ∈ WL, w.before args s = true := cx.2.2.2.1
  refine vx_throwS (names := knames) (A := A) cx.1 cx.2.1 hlS cx.2.2.1 hcls (by decide) (hw _ hk) (hw _ hini) hsa ?_ ?_ hE.1 hE.2.1 hI.2.2.1 hls d0 d3 d4 d6 d9 (fun x hx => (htab x hx).elim) (Nat.lt_of_lt_of_le (by decide) hR.1) (by show _ + (13 * (2 + 1) + 43) ≤ _; exact hR.2) (by omega) (by omega) hlk (fun t _ h1 h2 => kt_X hψ hI h1 h2) hI.2.2.1.2.2 (Nat.le_refl _) (Nat.le_refl _)
  · exact vx_hat (fun w h => hw w (hat w h)) hbad (fun w h => va_Nw.use (by simp only [kws, List.mem_cons, List.not_mem_nil, or_false] at h; rcases h with rfl | rfl | rfl | rfl | rfl | rfl | rfl <;> rfl) (hE.2.2.2.1 w h))
  · intro w h
    rcases List.mem_cons.mp h with rfl | h
    · rfl
    · rcases List.mem_cons.mp h with rfl | h
      · rfl
      · exact hgood w h
end KTHROW
theorem kt_good {ic : Nat} {cls : String} (h : ∀ w ∈ (vx_atS RX0 ic cls knames).filter goodWord, w ∈ lw_tbl) : ∀ w ∈ (vx_atS RX0 ic cls knames).filter goodWord, w ∈ WL := fun w hw => List.mem_filter.mpr ⟨h w hw, (List.mem_filter.mp hw).2⟩
theorem kt_iob1 : ∀ w ∈ (vx_atS RX0 52 "java/lang/IndexOutOfBoundsException" knames).filter goodWord, w ∈ lw_tbl := by decide +kernel
theorem kt_iob2 : ∀ w ∈ (vx_atS RX0 52 "java/lang/IndexOutOfBoundsException" knames).filter (fun w => !goodWord w), w ∈ kws := by decide +kernel
theorem kt_iob3 : ∀ w ∈ vx_atS RX0 52 "java/lang/IndexOutOfBoundsException" knames, vx_ot w = true := by decide +kernel
theorem kt_iae1 : ∀ w ∈ (vx_atS RX0 63 "java/lang/IllegalArgumentException" knames).filter goodWord, w ∈ lw_tbl := by decide +kernel
theorem kt_iae2 : ∀ w ∈ (vx_atS RX0 63 "java/lang/IllegalArgumentException" knames).filter (fun w => !goodWord w), w ∈ kws := by decide +kernel
theorem kt_iae3 : ∀ w ∈ vx_atS RX0 63 "java/lang/IllegalArgumentException" knames, vx_ot w = true := by decide +kernel
theorem kt_ise1 : ∀ w ∈ (vx_atS RX0 71 "java/lang/IllegalStateException" knames).filter goodWord, w ∈ lw_tbl := by decide +kernel
theorem kt_ise2 : ∀ w ∈ (vx_atS RX0 71 "java/lang/IllegalStateException" knames).filter (fun w => !goodWord w), w ∈ kws := by decide +kernel
theorem kt_ise3 : ∀ w ∈ vx_atS RX0 71 "java/lang/IllegalStateException" knames, vx_ot w = true := by decide +kernel
end
section
/-! MINE: 'throw new NoSuchElementException(text)'. The library's ctorThrowS (JvmDerived/BundleOwnThrow.lean) reads a chain of constructors whose superclass's constructor is entry 7 of each pool; this class's own is entry 13 (and NAMES.whole's word list of it is false). These rows follow ctorThrowS and vx_throwS with the head of the chain put apart; only what a thrower needs is kept of the end. -/
def knX : String := "java/util/NoSuchElementException"
def kn6 : ByteArray := ⟨#[0x2a, 0x2b, 0xb7, 0x00, 0x0d, 0xb1]⟩
theorem kn6_0 : decode kn6 0 = .ok (.aload_n 0, 1) := by decide +kernel
theorem kn6_1 : decode kn6 1 = .ok (.aload_n 1, 1) := by decide +kernel
theorem kn6_2 : decode kn6 2 = .ok (.invokespecial 13, 3) := by decide +kernel
theorem kn6_5 : decode kn6 5 = .ok (.return_, 1) := by decide +kernel
def kn_head : List Cond := Bundle.passSAtoms knX "java/lang/RuntimeException" 13 kn6
def kn_chain : List Cond := Bundle.chainSAtoms "java/lang/RuntimeException" ["java/lang/Exception"]
def kn_tail (own : String) (ic : Nat) : List Cond :=
  [.methodLink own ic (Bundle.initS knX), .instantiable knX 6, .castable knX knX, .selects knX Bundle.tFill0 Bundle.tFill0, .selects knX Bundle.tFill Bundle.tFill,
   .lays knX Bundle.tN "cause" "Ljava/lang/Throwable;", .lays knX Bundle.tN "stackTrace" Bundle.steD, .lays knX Bundle.tN "suppressedExceptions" Bundle.listD, .lays knX Bundle.tN "detailMessage" "Ljava/lang/String;",
   .isRef (.static Bundle.tN "UNASSIGNED_STACK" Bundle.steD), .isRef (.static Bundle.tN "SUPPRESSED_SENTINEL" Bundle.listD),
   .fieldLink Bundle.tN 198 Bundle.tN "backtrace" "Ljava/lang/Object;", .lays Bundle.tN Bundle.tN "backtrace" "Ljava/lang/Object;", .lays knX Bundle.tN "backtrace" "Ljava/lang/Object;"]
def kn_atoms (own : String) (ic : Nat) : List Cond := Bundle.throwableAtoms ++ (Bundle.throwableSAtoms ++ (kn_head ++ (kn_chain ++ kn_tail own ic)))
section KNSEE
variable {p : Program} {l : Launch} {e : Env} {R : Room} {s : State} {m₀ : MethodId} {args : Array Value} {below : List Frame} {meth : Method} {c : Code} {W : State} {locs : List Loc} {cells slots : Nat}
set_option maxHeartbeats 4000000 in
theorem kn_ctor (X : Stand p l e R s m₀ args below meth c W locs cells slots) (hexec : p.tables.exec = Jvm.exec) (htr : e.platform.stackTraces = false) {own : String} {ic : Nat}
    (hown : s.vm.findClass own = some m₀.cls) (h : ∀ a ∈ kn_atoms own ic, a.before args s = true)
    (hlocs : ∀ x ∈ locs, ∀ cell, s.heap[x.base]? = some cell → cell.vm.isStatics = false)
    {a : Addr} {cX : ClassId} {kX : Class} (hfoundX : s.vm.findClass knX = some cX) (hkX : s.vm.classes[cX]? = some kX) (hcell : W.heap[a]? = some (freshCell cX kX)) (hnew : s.heap.size ≤ a)
    {msg : Value} (hmsg : msg.isRef = true)
    {g : JFrame} (hg : g.method = m₀) (hsize : g.locals.size = c.maxLocals) (hlocked : g.locked = none) (hentered : g.entered = []) {rest : List Value} (hstack : g.stack = msg :: .ref a :: .ref a :: rest)
    (hd6 : decode c.code g.pc = .ok (.invokespecial ic, 3)) (hd9 : decode c.code (g.pc + 3) = .ok (.athrow, 1)) (hout : ∀ x ∈ c.exceptionTable.toList, covers x (g.pc + 3) = false)
    (hRframes : 5 < R.frames) (hRlocals : 2 * g.monitorRoom + ((Value.ref a :: rest).map fun v => v.category).sum + (13 * (2 + 1) + 42) ≤ R.locals) (hlocks : meth.locks = false) :
    ∃ U : State, Steps p.tables e below (W.setTop g) U ∧ U.status = .running ∧ Ended U below (.threw a) ∧ s.WarmedH U.vm ∧ s.sameButNew ({ U with vm := s.vm } : State) locs cells slots ∧
      ∃ ce, U.heap[a]? = some ce ∧ s.vm.findClass knX = some ce.cls ∧ ce.vm = .none := by
  have howns : e.platform.frameOwnsMonitors = true := by rw [X.admits.platform]
  have hfin : e.platform.finalization = false := by rw [X.admits.platform]
  have hpl : e.platform.magicAccessors = ({} : Platform).magicAccessors := by rw [X.admits.platform]
  have a' : ∀ x, x ∈ kn_atoms own ic → x.holds args s none s [] = true := fun x hx => h x hx
  have iT : ∀ x, x ∈ Bundle.throwableAtoms → x ∈ kn_atoms own ic := fun x hx => List.mem_append_left _ hx
  have iS : ∀ x, x ∈ Bundle.throwableSAtoms → x ∈ kn_atoms own ic := fun x hx => List.mem_append_right _ (List.mem_append_left _ hx)
  have iH : ∀ x, x ∈ kn_head → x ∈ kn_atoms own ic := fun x hx => List.mem_append_right _ (List.mem_append_right _ (List.mem_append_left _ hx))
  have iC : ∀ x, x ∈ kn_chain → x ∈ kn_atoms own ic := fun x hx => List.mem_append_right _ (List.mem_append_right _ (List.mem_append_right _ (List.mem_append_left _ hx)))
  have iL : ∀ x, x ∈ kn_tail own ic → x ∈ kn_atoms own ic := fun x hx => List.mem_append_right _ (List.mem_append_right _ (List.mem_append_right _ (List.mem_append_right _ hx)))
  obtain ⟨T, Z0, L, -, Y⟩ := ThrowableC.of_atoms (args := args) howns hfin hpl (fun x hx => h x (iT x hx))
  obtain ⟨Z, M, LZ, LM, hnZ⟩ := Init0T.ofS_atoms (args := args) hpl L Y (fun x hx => h x (iS x hx))
  obtain ⟨P2, Ps, hlen, L2, hL, hP2m, hlink2, hlink⟩ := Bundle.chainS (args := args) hpl hnZ ["java/lang/Exception"] "java/lang/RuntimeException" (by decide) (by decide) (fun x hx => h x (iC x hx))
  obtain ⟨P1, L1, hP1m, hsup1⟩ := PassC.ofS_atoms (args := args) (s := s) hpl (X := knX) (Y := "java/lang/RuntimeException") (by decide) (by decide) kn6_0 kn6_1 kn6_2 kn6_5 (fun x hx => h x (iH x hx))
  have hfound : s.vm.findClass knX = some P1.m.cls := findClass_of_methodNamed hP1m
  cases Option.some.inj (hfoundX.symm.trans hfound)
  obtain ⟨c1, kX', hc1, hk, hord, -, -, hn6⟩ := Cond.instantiable_spec (a' (.instantiable knX 6) (iL _ (by simp [kn_tail])))
  cases Option.some.inj (hc1.symm.trans hfound)
  cases Option.some.inj (hkX.symm.trans hk)
  have hsel0 : selectMethod e.platform s.vm P1.m.cls T.fill0 = .method T.fill0 := by
    obtain ⟨c2, r2, m2, q1, q2, q3, q4, -⟩ := Cond.selects_spec (a' (.selects knX Bundle.tFill0 Bundle.tFill0) (iL _ (by simp [kn_tail])))
    cases Option.some.inj (q1.symm.trans hfound)
    cases Option.some.inj (q2.symm.trans (State.methodFound?_of_named Y.fill0 (by decide)))
    cases Option.some.inj (q3.symm.trans Y.fill0)
    rw [Launch.admits_selectMethod X.admits]; exact q4
  have hselF : selectMethod e.platform s.vm P1.m.cls T.fill = .method T.fill := by
    obtain ⟨c2, r2, m2, q1, q2, q3, q4, -⟩ := Cond.selects_spec (a' (.selects knX Bundle.tFill Bundle.tFill) (iL _ (by simp [kn_tail])))
    cases Option.some.inj (q1.symm.trans hfound)
    cases Option.some.inj (q2.symm.trans (State.methodFound?_of_named Y.fill (by decide)))
    cases Option.some.inj (q3.symm.trans Y.fill)
    rw [Launch.admits_selectMethod X.admits]; exact q4
  obtain ⟨cellS0, hcS0, hiss⟩ := Y.statics
  obtain ⟨u0, hu0⟩ := Cond.staticRefV Y.unassigned L.unassignedStatic L.statics hcS0 hiss (a' (.isRef (.static Bundle.tN "UNASSIGNED_STACK" Bundle.steD)) (iL _ (by simp [kn_tail])))
  obtain ⟨sen, hsen⟩ := Cond.staticRefV Y.sentinel L.sentinelStatic L.statics hcS0 hiss (a' (.isRef (.static Bundle.tN "SUPPRESSED_SENTINEL" Bundle.listD)) (iL _ (by simp [kn_tail])))
  obtain ⟨ci198, i198, fB, hk198, hg198, ha198, hsB, -, hnB, htB, hffB⟩ := Cond.ownField (t := .object "java/lang/Object") Y.found L.cls (by decide +kernel) (a' (.fieldLink Bundle.tN 198 Bundle.tN "backtrace" "Ljava/lang/Object;") (iL _ (by simp [kn_tail]))) (a' (.lays Bundle.tN Bundle.tN "backtrace" "Ljava/lang/Object;") (iL _ (by simp [kn_tail]))) e.platform hpl
  obtain ⟨cellS, hcS', heS, -, hkeep⟩ := X.same.2.2.2.2.2 T.aS cellS0 hcS0
  have hcellS : W.heap[T.aS]? = some cellS := hcS'
  have hout' : ∀ i, (⟨T.aS, i⟩ : Loc) ∉ locs := fun i hmem => by
    have := hlocs _ hmem cellS0 hcS0
    rw [hiss] at this; cases this
  have hknownS : cellS.vm ≠ .unknown := by
    rw [heS]; intro hu
    rw [show cellS0.vm = .unknown from hu] at hiss
    cases hiss
  have hneS : T.aS ≠ a := Nat.ne_of_lt (Nat.lt_of_lt_of_le (Array.getElem?_eq_some_iff.mp hcS0).1 hnew)
  obtain ⟨iM, hffM⟩ := Y.msg
  obtain ⟨tyC, dC, hdC, hdnC⟩ := Cond.laysAt hfound hk Y.cause (a' (.lays knX Bundle.tN "cause" "Ljava/lang/Throwable;") (iL _ (by simp [kn_tail])))
  obtain ⟨tyS, dS, hdS, hdnS⟩ := Cond.laysAt hfound hk Y.stack (a' (.lays knX Bundle.tN "stackTrace" Bundle.steD) (iL _ (by simp [kn_tail])))
  obtain ⟨tyP, dP, hdP, hdnP⟩ := Cond.laysAt hfound hk Y.supp (a' (.lays knX Bundle.tN "suppressedExceptions" Bundle.listD) (iL _ (by simp [kn_tail])))
  obtain ⟨tyM, dM, hdM, hdnM⟩ := Cond.laysAt hfound hk hffM (a' (.lays knX Bundle.tN "detailMessage" "Ljava/lang/String;") (iL _ (by simp [kn_tail])))
  obtain ⟨tyB, dB, hdB, hdnB⟩ := Cond.laysAt hfound hk hffB (a' (.lays knX Bundle.tN "backtrace" "Ljava/lang/Object;") (iL _ (by simp [kn_tail])))
  have bC := Cond.laysApart hdB hdC hdnB hdnC (by rw [hnB, Y.causeName]; decide)
  have bS := Cond.laysApart hdB hdS hdnB hdnS (by rw [hnB, Y.stackName]; decide)
  have bP := Cond.laysApart hdB hdP hdnB hdnP (by rw [hnB, Y.suppName]; decide)
  have hskip : SkipFacts T e.platform s (fun u => u) u0 ((preparedCellV T.toThrowableT (freshCell P1.m.cls kX) a u0 sen).withEntry W.cur) :=
    ⟨{ ci198 := ci198, i198 := i198, fBack := fB }, ⟨hk198, hg198, ha198, hsB⟩, by
      have := fresh_default (c := P1.m.cls) tyB
      rw [htB] at this
      simpa [preparedCellV, Cell.setSlot, Cell.withEntry, Array.getElem?_setIfInBounds, bC, bS, bP, bC.symm, bS.symm, bP.symm, defaultValue] using this, fun _ _ => rfl⟩
  obtain ⟨tm, methC, cdC, kC, vm₁, hnC, -, -, -, -, -, -, -, hW₁, st1⟩ := Steps.initColdS (tb := p.tables) (e := e) (below := below) (s := s) (U := W) X.here hexec X.warmed hpl hown (t := Bundle.initS knX) rfl rfl (by decide)
    (a' (.methodLink own ic (Bundle.initS knX)) (iL _ (by simp [kn_tail]))) (h (.instanceMethod (Bundle.initS knX)) (iH _ (by simp [kn_head, Bundle.passSAtoms]))) (bytes := kn6) (maxL := 2) (h (.code (Bundle.initS knX) kn6 2 none) (iH _ (by simp [kn_head, Bundle.passSAtoms])))
    (f := g) hg (a := a) (msg := msg) (rest := .ref a :: rest) hstack hd6
  cases Option.some.inj (hnC.symm.trans hP1m)
  have X₁ := X.noted hW₁
  obtain ⟨vm₂, X₂, st2⟩ := X₁.ctorMessageOffV hexec (g := { g with stack := .ref a :: rest }) hg hsize T L Z LZ M LM (P1 :: P2 :: Ps)
    (fun P hP => by
      rcases List.mem_cons.mp hP with rfl | hP
      · exact L1
      · rcases List.mem_cons.mp hP with rfl | hP
        · exact L2
        · exact hL P hP) ⟨Option.some.inj (hsup1.symm.trans hP2m), hlink2, hlink⟩ (u0 := u0) (sen := sen) (self := a) hmsg (cell := freshCell P1.m.cls kX) (cellS := cellS)
    hcell (fun _ => by simp) (by simp) rfl rfl hsel0 hselF hcellS hneS hknownS (by rw [hkeep _ (hout' _)]; exact hu0) (by rw [hkeep _ (hout' _)]; exact hsen)
    (Takes.of_laid hk hord tyC (by rw [Y.causeType]; rfl)) (Takes.of_laid hk hord tyS (by rw [Y.stackType]; exact fits_refV_array _ u0)) (Takes.of_laid hk hord tyP (by rw [Y.suppType]; exact fits_refV_object _ sen))
    (Takes.of_laid hk hord tyM (by rw [Y.msgType]; exact fits_refV_object _ ⟨msg, hmsg⟩)) Y.objLocals hskip htr [] hd6
    (by simp only [List.length_cons, hlen, List.length_nil]; omega) (by simp only [List.length_cons, hlen, List.length_nil]; exact hRlocals)
  obtain ⟨hwalk, hrun, hended, hWU, hsame⟩ := X₂.athrowLeaves hexec (g := { g with stack := .ref a :: rest, pc := g.pc + 3 }) hg hlocked hentered hout (a := a) (rest := rest) rfl hd9
  have hlt : a < ((W.setVm vm₁).setVm vm₂).heap.size := (Array.getElem?_eq_some_iff.mp hcell).1
  have hU := heapAt_setCell_self (s := (W.setVm vm₁).setVm vm₂) (plainBareV T.toThrowableT (freshCell P1.m.cls kX) a u0 sen msg) hlt
  refine ⟨_, st1 _ (fun acts => ?_), hrun, hended, hWU, hsame.weaken (fun y hy hlt' => ?_) (Nat.le_refl _) (Nat.le_refl _), _, hU, hfound, rfl⟩
  · rw [doInvoke_state]
    exact st2 _ hwalk
  · rcases List.mem_append.mp hy with h1 | h1
    · exact h1
    · exfalso
      have hb : y.base = a := by
        simp only [List.mem_cons, List.not_mem_nil, or_false] at h1
        rcases h1 with rfl | rfl | rfl | rfl | rfl <;> rfl
      rw [hb] at hlt'
      exact Nat.not_lt.mpr hnew hlt'
end KNSEE
def kn_at (own : String) (ic : Nat) : List Cond := (kn_atoms own ic).filter vx_no
section KNTHROW
variable {p : Program} {l : Launch} {e : Env} {R : Room} {s : State} {m : MethodId} {args : Array Value} {below : List Frame} {meth : Method} {c : Code} {H : Heap} {locs : List Loc} {cells slots : Nat} {free : Addr → Prop}
variable {ls : Array Slot} {rest : List Value} {Qc : Array Value → State → Outcome → State → Prop} {XC : String → State → State → Prop}
theorem kn_throw {cc : ByteArray} {pc : Nat} (hexec : p.tables.exec = Jvm.exec) (hb : c.code = cc) (hl : l.stackTraces = false) {own text : String} {ik is ic mc ms sa : Nat} {A : Nat → Prop}
    (hown : s.vm.findClass own = some m.cls) (hk : (Cond.classLink own ik knX).before args s = true) (hini : (Cond.initialized knX).before args s = true) (hstr : vk_R own is text sa s) (hat : ∀ w ∈ kn_at own ic, w.before args s = true)
    (hgood : ∀ w ∈ Cond.classLink own ik knX :: Cond.initialized knX :: kn_at own ic, vx_ot w = true)
    (hU : vx_Zq Bundle.tN "UNASSIGNED_STACK" Bundle.steD A s s.heap) (hN : vx_Zq Bundle.tN "SUPPRESSED_SENTINEL" Bundle.listD A s s.heap) (hS : va_S A s.heap H locs) (hsize : ls.size = c.maxLocals)
    (d0 : decode cc pc = .ok (.new ik, 3)) (d3 : decode cc (pc + 3) = .ok (.dup, 1)) (d4 : decode cc (pc + 4) = .ok (.ldc is, 2)) (d6 : decode cc (pc + 6) = .ok (.invokespecial ic, 3)) (d9 : decode cc (pc + 9) = .ok (.athrow, 1))
    (hout : ∀ x ∈ c.exceptionTable.toList, covers x (pc + 9) = false)
    (hRframes : 5 < R.frames) (hRlocals : (rest.map fun v => v.category).sum + (13 * (2 + 1) + 43) ≤ R.locals) (hRcells : cells + 1 ≤ R.cells) (hRslots : slots + 6 ≤ R.slots) (hlocks : meth.locks = false)
    (hx : ∀ t : State, s.vm.Alike t.vm → H.size ≤ t.heap.size → (∀ q : Nat, q < H.size → t.heap[q]? = H[q]?) → XC knX s t)
    (hf : ∀ z ∈ locs, free z.base) (hc : cells + 1 ≤ mc) (hs : slots + 6 ≤ ms) :
    W p l e R s m args below meth c H locs cells slots (vx_MQ below Qc XC args s mc ms free) (F0 m pc ls rest) := by
  intro T hT X
  have htr : e.platform.stackTraces = false := (show e.platform.stackTraces = l.stackTraces by rw [X.admits.platform]).trans hl
  have Y := vx_rebase X (R' := { frames := R.frames, locals := R.locals, cells := 1, slots := 6 }) (Nat.le_refl _) (Nat.le_refl _) hRcells hRslots
  obtain ⟨s', hA⟩ : ∃ z, z = (T.setVm s.vm).setFrames (.invoking m args :: below) := ⟨_, rfl⟩
  rw [← hA] at Y
  have hvm : s'.vm = s.vm := by rw [hA]; rfl
  have hhp : s'.heap = H := by rw [hA]; exact hT
  have hW0 : s.WarmedH s'.vm := by rw [hvm]; exact State.WarmedH.refl s
  have hat' : ∀ w ∈ kn_at own ic, w.before args s' = true := fun w hw => vx_ot_at hW0 hvm.symm (hgood w (List.mem_cons_of_mem _ (List.mem_cons_of_mem _ hw))) (hat w hw)
  have hk' : (Cond.classLink own ik knX).before args s' = true := vx_ot_at hW0 hvm.symm (hgood _ List.mem_cons_self) hk
  have hini' : (Cond.initialized knX).before args s' = true := vx_ot_at hW0 hvm.symm (hgood _ (List.mem_cons_of_mem _ List.mem_cons_self)) hini
  have hU' : vx_Zq Bundle.tN "UNASSIGNED_STACK" Bundle.steD A s' s'.heap := by rw [hhp]; exact vx_Zq.moved hW0.alike (hU.kept hS.2.1)
  have hN' : vx_Zq Bundle.tN "SUPPRESSED_SENTINEL" Bundle.listD A s' s'.heap := by rw [hhp]; exact vx_Zq.moved hW0.alike (hN.kept hS.2.1)
  have h : ∀ w ∈ kn_atoms own ic, w.before args s' = true := vx_own hat' (vx_isRefq hU'.1) (vx_isRefq hN'.1) hU'.2.word hN'.2.word
  have hown' : s'.vm.findClass own = some m.cls := by rw [hvm]; exact hown
  have hins : (Cond.instantiable knX 6).before args s' = true := h _ (by simp [kn_atoms, kn_tail])
  obtain ⟨vm₁, cX, kX, hfX, hkX, -, -, X₁, st1⟩ := Y.newCold hexec (own := own) (C := knX) (index := ik) (n := 6) hown' hk' hins hini'
    (g := F0 m pc ls rest) rfl (by rw [hb]; exact d0) (Nat.le_refl _) (Nat.le_refl _)
  generalize hT1 : (T.setVm vm₁).pushCell { cls := cX, slots := kX.instanceTypes.map defaultValue, vm := .none } = T1 at X₁ st1
  have hcat : (Value.ref T.heap.size).category = 1 := rfl
  have hcellA : T1.heap[T.heap.size]? = some (freshCell cX kX) := by rw [← hT1]; exact State.heap_pushCell_size _ _
  have d3' : decode c.code (pc + 3) = .ok (.dup, 1) := by rw [hb]; exact d3
  have d4' : decode c.code (pc + 4) = .ok (.ldc is, 2) := by rw [hb]; exact d4
  have hstr' : vk_R own is text sa s' := vk_R.warm hW0 hstr
  obtain ⟨U, hsteps, hrun, hend, hW, hsame, ce, hce, hO1, hO2⟩ := kn_ctor X₁ hexec htr (own := own) (ic := ic) hown' h (fun x hx => nomatch hx) hfX hkX hcellA (by rw [hhp, hT]; exact Nat.le_refl _) (msg := .ref sa) rfl
    (g := { method := m, pc := pc + 6, locals := ls, stack := .ref sa :: .ref T.heap.size :: .ref T.heap.size :: rest, locked := none }) rfl hsize rfl rfl (rest := rest) rfl
    (by rw [hb]; exact d6) (by rw [hb]; exact d9) hout hRframes (by simp only [List.map_cons, List.sum_cons, hcat]; show 2 * 0 + _ + _ ≤ R.locals; omega) hlocks
  obtain ⟨f1, f2⟩ := vx_frame hsame
  rw [hhp] at f1 f2
  have hWs : s.WarmedH U.vm := State.WarmedH.trans hW0 hW
  have hcl : s.vm.findClass knX = some ce.cls := by
    rw [hvm] at hO1
    exact hO1
  have hall : s.sameButNew ({ U with vm := s.vm } : State) locs mc ms := by
    subst hA
    obtain ⟨e1, e2⟩ := hsame
    rw [State.setFrames_setFrames] at e1
    have h2 : (T.setVm s.vm).sameButNew ({ U with vm := s.vm } : State) [] (0 + 1) (0 + 6) := ⟨e1, e2⟩
    have h3 := X.same.trans h2
    rw [List.append_nil] at h3
    exact h3.mono hc hs
  refine ⟨U, ?_, .threw T.heap.size, hrun, hend, Or.inr ⟨T.heap.size, rfl, knX, ce, locs, hx U hWs.alike f1 (fun q hq => f2 q hq (fun z hz => nomatch hz)), hce, hO2, hcl, hWs, hall, hf⟩⟩
  refine st1 _ ?_
  show Steps p.tables e below (T1.setTop { method := m, pc := pc + 3, locals := ls, stack := .ref T.heap.size :: rest, locked := none }) _
  jvm_step X₁.here [X₁.here.top, hexec, d3', Value.category]
  exact X₁.ldcString hexec (own := own) (text := text) (index := is) (a := sa) hown' hstr'.1 hstr'.2
    (g := { method := m, pc := pc + 4, locals := ls, stack := .ref T.heap.size :: .ref T.heap.size :: rest, locked := none }) rfl d4' _ hsteps
end KNTHROW
theorem kn_1 : ∀ w ∈ (kn_at RX0 84).filter goodWord, w ∈ lw_tbl := by decide +kernel
theorem kn_2 : ∀ w ∈ (kn_at RX0 84).filter (fun w => !goodWord w), w ∈ kws := by decide +kernel
theorem kn_3 : ∀ w ∈ kn_at RX0 84, vx_ot w = true := by decide +kernel
section KNT
variable {p : Program} {l : Launch} {e : Env} {R : Room} {s : State} {m : MethodId} {args : Array Value} {below : List Frame} {meth : Method} {c : Code} {H : Heap} {locs : List Loc}
variable {cc : ByteArray} {pc : Nat} {ls : Array Slot} {rest : List Value} {D : va_G} {ca : Nat → ClassId} {A : Nat → Prop} {w : va_W} {ψ : String → Prop} {Qc : Array Value → State → Outcome → State → Prop}
theorem kt_nse {text : String} {is : Nat} (cx : KC p c cc s args m RX0 D ca) (hlS : l.stackTraces = false) (hlk : meth.locks = false) (htab : ∀ x ∈ c.exceptionTable.toList, False) (hE : KE A s s.heap) (hI : KI D A w s.heap H locs) (hls : ls.size = c.maxLocals) (hstr : (is, text) ∈ kstrs)
    (d0 : decode cc pc = .ok (.new 80, 3)) (d3 : decode cc (pc + 3) = .ok (.dup, 1)) (d4 : decode cc (pc + 4) = .ok (.ldc is, 2)) (d6 : decode cc (pc + 6) = .ok (.invokespecial 84, 3)) (d9 : decode cc (pc + 9) = .ok (.athrow, 1))
    (hR : 6 ≤ R.frames ∧ (rest.map fun v => v.category).sum + 82 ≤ R.locals) (hc : 1 ≤ R.cells ∧ 6 ≤ R.slots) (hψ : ψ "java/util/NoSuchElementException") :
    W p l e R s m args below meth c H locs 0 0 (vx_MQ below Qc (KX D w ψ A) args s 1 6 A) (F0 m pc ls rest) := by
  obtain ⟨sa, hsa⟩ := hE.2.2.1 _ hstr
  have hw : ∀ w ∈ WL, w.before args s = true := cx.2.2.2.1
  refine kn_throw (A := A) cx.1 cx.2.1 hlS cx.2.2.1 (hw _ wk_273) (hw _ wk_10) hsa ?_ ?_ hE.1 hE.2.1 hI.2.2.1 hls d0 d3 d4 d6 d9 (fun x hx => (htab x hx).elim) (Nat.lt_of_lt_of_le (by decide) hR.1) hR.2 (by omega) (by omega) hlk (fun t _ h1 h2 => kt_X hψ hI h1 h2) hI.2.2.1.2.2 (Nat.le_refl _) (Nat.le_refl _)
  · exact vx_hat (fun w h => hw w (List.mem_filter.mpr ⟨kn_1 w h, (List.mem_filter.mp h).2⟩)) kn_2 (fun w h => va_Nw.use (by simp only [kws, List.mem_cons, List.not_mem_nil, or_false] at h; rcases h with rfl | rfl | rfl | rfl | rfl | rfl | rfl <;> rfl) (hE.2.2.2.1 w h))
  · intro w h
    rcases List.mem_cons.mp h with rfl | h
    · rfl
    · rcases List.mem_cons.mp h with rfl | h
      · rfl
      · exact kn_3 w h
theorem kt_iob {text : String} {is : Nat} (cx : KC p c cc s args m RX0 D ca) (hlS : l.stackTraces = false) (hlk : meth.locks = false) (htab : ∀ x ∈ c.exceptionTable.toList, False) (hE : KE A s s.heap) (hI : KI D A w s.heap H locs) (hls : ls.size = c.maxLocals) (hstr : (is, text) ∈ kstrs)
    (d0 : decode cc pc = .ok (.new 48, 3)) (d3 : decode cc (pc + 3) = .ok (.dup, 1)) (d4 : decode cc (pc + 4) = .ok (.ldc is, 2)) (d6 : decode cc (pc + 6) = .ok (.invokespecial 52, 3)) (d9 : decode cc (pc + 9) = .ok (.athrow, 1))
    (hR : 6 ≤ R.frames ∧ (rest.map fun v => v.category).sum + 82 ≤ R.locals) (hc : 1 ≤ R.cells ∧ 6 ≤ R.slots) (hψ : ψ "java/lang/IndexOutOfBoundsException") :
    W p l e R s m args below meth c H locs 0 0 (vx_MQ below Qc (KX D w ψ A) args s 1 6 A) (F0 m pc ls rest) :=
  kt_std cx hlS hlk htab hE hI hls (by decide) wk_144 wk_7 hstr (kt_good kt_iob1) kt_iob2 kt_iob3 d0 d3 d4 d6 d9 hR hc hψ
theorem kt_iae {text : String} {is : Nat} (cx : KC p c cc s args m RX0 D ca) (hlS : l.stackTraces = false) (hlk : meth.locks = false) (htab : ∀ x ∈ c.exceptionTable.toList, False) (hE : KE A s s.heap) (hI : KI D A w s.heap H locs) (hls : ls.size = c.maxLocals) (hstr : (is, text) ∈ kstrs)
    (d0 : decode cc pc = .ok (.new 59, 3)) (d3 : decode cc (pc + 3) = .ok (.dup, 1)) (d4 : decode cc (pc + 4) = .ok (.ldc is, 2)) (d6 : decode cc (pc + 6) = .ok (.invokespecial 63, 3)) (d9 : decode cc (pc + 9) = .ok (.athrow, 1))
    (hR : 6 ≤ R.frames ∧ (rest.map fun v => v.category).sum + 82 ≤ R.locals) (hc : 1 ≤ R.cells ∧ 6 ≤ R.slots) (hψ : ψ "java/lang/IllegalArgumentException") :
    W p l e R s m args below meth c H locs 0 0 (vx_MQ below Qc (KX D w ψ A) args s 1 6 A) (F0 m pc ls rest) :=
  kt_std cx hlS hlk htab hE hI hls (by decide) wk_217 wk_8 hstr (kt_good kt_iae1) kt_iae2 kt_iae3 d0 d3 d4 d6 d9 hR hc hψ
theorem kt_ise {text : String} {is : Nat} (cx : KC p c cc s args m RX0 D ca) (hlS : l.stackTraces = false) (hlk : meth.locks = false) (htab : ∀ x ∈ c.exceptionTable.toList, False) (hE : KE A s s.heap) (hI : KI D A w s.heap H locs) (hls : ls.size = c.maxLocals) (hstr : (is, text) ∈ kstrs)
    (d0 : decode cc pc = .ok (.new 67, 3)) (d3 : decode cc (pc + 3) = .ok (.dup, 1)) (d4 : decode cc (pc + 4) = .ok (.ldc is, 2)) (d6 : decode cc (pc + 6) = .ok (.invokespecial 71, 3)) (d9 : decode cc (pc + 9) = .ok (.athrow, 1))
    (hR : 6 ≤ R.frames ∧ (rest.map fun v => v.category).sum + 82 ≤ R.locals) (hc : 1 ≤ R.cells ∧ 6 ≤ R.slots) (hψ : ψ "java/lang/IllegalStateException") :
    W p l e R s m args below meth c H locs 0 0 (vx_MQ below Qc (KX D w ψ A) args s 1 6 A) (F0 m pc ls rest) :=
  kt_std cx hlS hlk htab hE hI hls (by decide) wk_233 wk_9 hstr (kt_good kt_ise1) kt_ise2 kt_ise3 d0 d3 d4 d6 d9 hR hc hψ
end KNT
end
section
/-! MINE: what each method of the class does to its state, as a function (the class's own words). -/
def xWithin (x a b : Int32) : Bool := !decide (x < a) && !decide (b < x)
def xFits (v : XS) (b : Int32) : Bool := !decide (xt v = 1) || !decide (xq v < b)
def xCbw (v : XS) (a b : Int32) : Bool := xWithin a 0 999 && (xWithin b 0 999 && (!decide (xp v = 2) || xFits v b))
def xOld (v : XS) (k : Int32) : Bool := !decide (xA v k.toNatClampNeg = -1)
def xSh (v : XS) (k : Int32) : Bool := !decide (xC v 0 k.toNatClampNeg = -1)
def xSeen (v : XS) (k : Int32) : Bool := xOld v k && (!decide (xp v = 2) || xSh v k)
def xRow (v : XS) (k : Int32) : Int32 := 1000 * xA v k.toNatClampNeg + xB v k.toNatClampNeg
def xPut (v : XS) (k a b : Int32) : XS := xUB (xUA v (upd (xA v) k.toNatClampNeg a)) (upd (xB (xUA v (upd (xA v) k.toNatClampNeg a))) k.toNatClampNeg b)
def xDig (b : Int32) : Int32 := if 10 ≤ b then (if 100 ≤ b then 3 else 2) else 1
def xMid (v : XS) (a b : Int32) : Int32 := if xt v = 0 then a - a / 100 * 100 else if xt v = 1 then b else b * xq v
def xLast (v : XS) (b : Int32) : Int32 := if xt v = 0 then b else if xt v = 1 then 0 else xDig b
def xAlt (v : XS) (a b c : Int32) : Int32 := if c = 0 then (if xt v = 0 then a / 100 else a) else if c = 1 then xMid v a b else xLast v b
def xBro (v : XS) (k c : Int32) : Int32 := if xOld v k && xFits v (xB v k.toNatClampNeg) then xAlt v (xA v k.toNatClampNeg) (xB v k.toNatClampNeg) c else -1
def xBr (v : XS) (k c : Int32) (j : Nat) : XS := xUC v j (upd (xC v j) k.toNatClampNeg (xBro v k c))
def xBr3 (v : XS) (k : Int32) : XS := xBr (xBr (xBr v k 0 0) k 1 1) k 2 2
def xBring (v : XS) (k : Int32) : XS := xUR (xBr3 v k) (upd (xR (xBr3 v k)) k.toNatClampNeg (vp_nar .boolean (b2i (xOld (xBr3 v k) k && !xFits (xBr3 v k) (xB (xBr3 v k) k.toNatClampNeg)))))
def xBeh (v : XS) (k : Int32) : Bool := !decide (xC v 0 k.toNatClampNeg = xBro v k 0) || (!decide (xC v 1 k.toNatClampNeg = xBro v k 1) || !decide (xC v 2 k.toNatClampNeg = xBro v k 2))
def xNote (v : XS) (k : Int32) : XS := if 1024 ≤ xc v then v else xUc (xUN v (upd (xN v) (xc v).toNatClampNeg k)) (xc (xUN v (upd (xN v) (xc v).toNatClampNeg k)) + 1)
def xFollow (v : XS) (k : Int32) : XS := if xp v = 1 then xNote v k else if xp v = 2 then xBring v k else v
/-- sums over keys -/
def kSum (f : Nat → Int32) : Nat → Int32
  | 0 => 0
  | n + 1 => kSum f n + f n
def xRows (v : XS) : Nat → Int32 := kSum (fun i => b2i (xSeen v (nI i)))
def xShRows (v : XS) : Nat → Int32 := kSum (fun i => b2i (xSh v (nI i)))
def xBehinds (v : XS) : Nat → Int32 := kSum (fun i => b2i (xBeh v (nI i)))
def xSum (v : XS) (c : Int32) : Nat → Int32 := kSum (fun i => if xSh v (nI i) then xC v c.toNatClampNeg (nI i).toNatClampNeg else 0)
def xSumAt (v : XS) (c : Int32) : Nat → Int32 := kSum (fun i => if xBro v (nI i) c = -1 then 0 else xBro v (nI i) c)
theorem xRows_t {v : XS} {i : Nat} (h : xSeen v (nI i) = true) : xRows v (i + 1) = xRows v i + 1 := by simp [xRows, kSum, h, b2i]
theorem xRows_f {v : XS} {i : Nat} (h : xSeen v (nI i) = false) : xRows v (i + 1) = xRows v i := by simp [xRows, kSum, h, b2i]
theorem xShRows_t {v : XS} {i : Nat} (h : xSh v (nI i) = true) : xShRows v (i + 1) = xShRows v i + 1 := by simp [xShRows, kSum, h, b2i]
theorem xShRows_f {v : XS} {i : Nat} (h : xSh v (nI i) = false) : xShRows v (i + 1) = xShRows v i := by simp [xShRows, kSum, h, b2i]
theorem xBehinds_t {v : XS} {i : Nat} (h : xBeh v (nI i) = true) : xBehinds v (i + 1) = xBehinds v i + 1 := by simp [xBehinds, kSum, h, b2i]
theorem xBehinds_f {v : XS} {i : Nat} (h : xBeh v (nI i) = false) : xBehinds v (i + 1) = xBehinds v i := by simp [xBehinds, kSum, h, b2i]
theorem xSum_t {v : XS} {c : Int32} {i : Nat} (h : xSh v (nI i) = true) : xSum v c (i + 1) = xSum v c i + xC v c.toNatClampNeg (nI i).toNatClampNeg := by simp [xSum, kSum, h]
theorem xSum_f {v : XS} {c : Int32} {i : Nat} (h : xSh v (nI i) = false) : xSum v c (i + 1) = xSum v c i := by simp [xSum, kSum, h]
theorem xSumAt_t {v : XS} {c : Int32} {i : Nat} (h : xBro v (nI i) c = -1) : xSumAt v c (i + 1) = xSumAt v c i := by simp [xSumAt, kSum, h]
theorem xSumAt_f {v : XS} {c : Int32} {i : Nat} (h : ¬ xBro v (nI i) c = -1) : xSumAt v c (i + 1) = xSumAt v c i + xBro v (nI i) c := by simp [xSumAt, kSum, h]
/-- rows that are not in the shadow go -/
def xGo (v : XS) (i : Nat) : Bool := xOld v (nI i) && !xSh v (nI i)
def xRem (v : XS) : Nat → XS
  | 0 => v
  | n + 1 => if xGo (xRem v n) n then xPut (xRem v n) (nI n) (-1) (-1) else xRem v n
def xRemN (v : XS) : Nat → Int32
  | 0 => 0
  | n + 1 => xRemN v n + b2i (xGo (xRem v n) n)
def xCopyE (v : XS) : Int32 := if (40 : Int32) < xm v + xk v then 40 else xm v + xk v
def xCopyL (v : XS) (mk : Nat) : Nat → XS
  | 0 => v
  | n + 1 => xBring (xCopyL v mk n) (nI (mk + n))
def xCopy (v : XS) (mk n : Nat) : XS := xUm (xCopyL v mk n) (xCopyE v)
def xPlayL (v : XS) : Nat → XS
  | 0 => v
  | n + 1 => xBring (xPlayL v n) (xN (xPlayL v n) (nI n).toNatClampNeg)
def xPlayC (v : XS) (c : Nat) : XS := xUc (xPlayL v c) (xc (xPlayL v c) - nI c)
def xPlay (v : XS) (c : Nat) : XS := xUN (xPlayC v c) (va_cpy (xN (xPlayC v c)) (xN (xPlayC v c)) (nI c).toNatClampNeg (0 : Int32).toNatClampNeg (xc (xPlayC v c)).toNatClampNeg)
def kFill (n : Nat) (y : Int32) (f : Nat → Int32) : Nat → Int32 := fun j => if j < n then y else f j
def xClr (v : XS) : Nat → XS
  | 0 => v
  | n + 1 => xUC (xClr v n) (nI n).toNatClampNeg (kFill 40 (-1) (xC (xClr v n) (nI n).toNatClampNeg))
def xUnr (v : XS) : Nat → XS
  | 0 => v
  | n + 1 => xUR (xUnr v n) (upd (xR (xUnr v n)) (nI n).toNatClampNeg (vp_nar .boolean 0))
def xEnd (v : XS) : XS := xUp (xUc (xUnr (xClr v 3) 40) 0) 0
theorem xPlayL_N (v : XS) (n : Nat) : xN (xPlayL v n) = xN v := by
  induction n with
  | zero => rfl
  | succ n ih => exact ih
theorem xPlayL_c (v : XS) (n : Nat) : xc (xPlayL v n) = xc v := by
  induction n with
  | zero => rfl
  | succ n ih => exact ih
theorem xWithin_in {x : Int32} {n : Nat} {N : Int32} (hN : N.toInt = n) (h : xWithin x 0 N = true) : vp_in x (n + 1) := by
  simp only [xWithin, Bool.and_eq_true, Bool.not_eq_true', decide_eq_false_iff_not] at h
  rw [vp_in_iff]
  rw [Int32.lt_iff_toInt_lt, Int32.lt_iff_toInt_lt, hN] at h
  have h0 : (0 : Int32).toInt = 0 := rfl
  omega
theorem xKey_in {x : Int32} (h : xWithin x 0 39 = true) : vp_in x 40 := xWithin_in (n := 39) rfl h
theorem xCol_in {x : Int32} (h : xWithin x 0 2 = true) : vp_in x 3 := xWithin_in (n := 2) rfl h
section KMM
variable {p : Program} {l : Launch} {e : Env} {R : Room} {s : State} {m : MethodId} {args : Array Value} {below : List Frame} {meth : Method} {c : Code} {H : Heap} {locs : List Loc} {cells slots : Nat} {Q : State → Prop}
variable {cc : ByteArray} {pc : Nat} {ls : Array Slot} {rest : List Value} {D : va_G} {ca : Nat → ClassId} {A : Nat → Prop} {ad : Nat → Nat} {own : String} {index : Nat} {x y : Int32}
theorem k_mmin (cx : KC p c cc s args m own D ca) (hls : c.maxLocals = ls.size) (hlink : (Cond.methodLink own index (⟨"java/lang/Math", "min", "(II)I"⟩ : MethodName)).before args s = true) (hframes : 1 ≤ R.frames) (hlocals : (rest.map fun v => v.category).sum + 13 ≤ R.locals) (hc : cells ≤ R.cells) (hs : slots ≤ R.slots) (hdg : decode cc pc = .ok (.invokestatic index, 3))
    (kk : W p l e R s m args below meth c H locs cells slots Q (F0 m (pc + 3) ls (.int (if y < x then y else x) :: rest))) : W p l e R s m args below meth c H locs cells slots Q (F0 m pc ls (.int y :: .int x :: rest)) :=
  va_mmin cx.1 cx.2.1 hls cx.2.2.1 hlink (cx.2.2.2.1 _ wk_315) (cx.2.2.2.1 _ wk_11) (cx.2.2.2.1 _ wk_316) hframes hlocals hc hs hdg kk
theorem k_mmax (cx : KC p c cc s args m own D ca) (hls : c.maxLocals = ls.size) (hlink : (Cond.methodLink own index (⟨"java/lang/Math", "max", "(II)I"⟩ : MethodName)).before args s = true) (hframes : 1 ≤ R.frames) (hlocals : (rest.map fun v => v.category).sum + 13 ≤ R.locals) (hc : cells ≤ R.cells) (hs : slots ≤ R.slots) (hdg : decode cc pc = .ok (.invokestatic index, 3))
    (kk : W p l e R s m args below meth c H locs cells slots Q (F0 m (pc + 3) ls (.int (if x < y then y else x) :: rest))) : W p l e R s m args below meth c H locs cells slots Q (F0 m pc ls (.int y :: .int x :: rest)) :=
  va_mmax cx.1 cx.2.1 hls cx.2.2.1 hlink (cx.2.2.2.1 _ wk_318) (cx.2.2.2.1 _ wk_11) (cx.2.2.2.1 _ wk_319) hframes hlocals hc hs hdg kk
end KMM
theorem kin_of {x N : Int32} {n : Nat} (h0 : ¬ x < 0) (h : ¬ N ≤ x) (hN : N.toInt = n := by rfl) : vp_in x n := by
  rw [vp_in_iff]
  rw [Int32.lt_iff_toInt_lt] at h0
  rw [Int32.le_iff_toInt_le, hN] at h
  have e0 : (0 : Int32).toInt = 0 := rfl
  omega
end
section
set_option maxHeartbeats 4000000 in
set_option maxRecDepth 100000 in
theorem kX0_isWithin (l : Launch) (D : va_G) (ca : Nat → ClassId) (x a b : Int32) : CM l yX0_isWithin cX0_isWithin 3 (some .boolean) (KR 0 0) D ca [] [.int x, .int a, .int b] (some (.int (b2i (xWithin x a b)))) [] := by
  refine CM.of (by decide) (Nat.le_of_ble_eq_true rfl) ?_
  intro p e s m below meth c A ls cx hml hr hlk hI hl
  have hl : lv_has ls 3 [(0, .int x), (1, .int a), (2, .int b)] := hl
  refine lv_iload_n cx.1 cx.2.1 dX0_isWithin_0 rfl (lv_at hl 0 rfl) ?_
  refine lv_iload_n cx.1 cx.2.1 dX0_isWithin_1 rfl (lv_at hl 1 rfl) ?_
  refine lv_icmp_lt (tgt := 14) cx.1 cx.2.1 dX0_isWithin_2 (by decide) (fun c_1 => ?_) (fun c_1 => ?_)
  · refine lv_iconst (v := 0) cx.1 cx.2.1 dX0_isWithin_14 (by decide) ?_
    exact ke_z cx hr hlk hI (Nat.zero_le _) (Nat.zero_le _) dX0_isWithin_15 rfl (congrArg (fun z => some (Value.int z)) (by simp [xWithin, b2i, c_1])) rfl
  · refine lv_iload_n cx.1 cx.2.1 dX0_isWithin_5 rfl (lv_at hl 0 rfl) ?_
    refine lv_iload_n cx.1 cx.2.1 dX0_isWithin_6 rfl (lv_at hl 2 rfl) ?_
    refine lv_icmp_gt (tgt := 14) cx.1 cx.2.1 dX0_isWithin_7 (by decide) (fun c_2 => ?_) (fun c_2 => ?_)
    · refine lv_iconst (v := 0) cx.1 cx.2.1 dX0_isWithin_14 (by decide) ?_
      exact ke_z cx hr hlk hI (Nat.zero_le _) (Nat.zero_le _) dX0_isWithin_15 rfl (congrArg (fun z => some (Value.int z)) (by simp [xWithin, b2i, c_1, c_2])) rfl
    · refine lv_iconst (v := 1) cx.1 cx.2.1 dX0_isWithin_10 (by decide) ?_
      refine lv_goto (tgt := 15) cx.1 cx.2.1 dX0_isWithin_11 (by decide) ?_
      exact ke_z cx hr hlk hI (Nat.zero_le _) (Nat.zero_le _) dX0_isWithin_15 rfl (congrArg (fun z => some (Value.int z)) (by simp [xWithin, b2i, c_1, c_2])) rfl
set_option maxHeartbeats 4000000 in
set_option maxRecDepth 100000 in
theorem kX0_isKey (l : Launch) (D : va_G) (ca : Nat → ClassId) (key : Int32) : CM l yX0_isKey cX0_isKey 1 (some .boolean) (KR 1 22) D ca [] [.int key] (some (.int (b2i (xWithin key 0 39)))) [] := by
  refine CM.of (by decide) (Nat.le_of_ble_eq_true rfl) ?_
  intro p e s m below meth c A ls cx hml hr hlk hI hl
  have hl : lv_has ls 1 [(0, .int key)] := hl
  refine lv_iload_n cx.1 cx.2.1 dX0_isKey_0 rfl (lv_at hl 0 rfl) ?_
  refine lv_iconst (v := 0) cx.1 cx.2.1 dX0_isKey_1 (by decide) ?_
  refine lv_bipush (v := 39) cx.1 cx.2.1 dX0_isKey_2 (by decide) ?_
  refine ks_i 3 cx (hl.1.trans hml.symm) (kX0_isWithin l D ca key 0 39) hI wk_143 wk_141 wk_142 wk_1 ⟨by decide, by decide, by decide +kernel⟩ rfl ⟨rfl, rfl⟩ ⟨Nat.le_of_ble_eq_true rfl, Nat.le_of_ble_eq_true rfl⟩ (Nat.le_of_ble_eq_true rfl) dX0_isKey_4 ⟨Nat.zero_le _, Nat.zero_le _⟩ rfl (fun H locs hI => ?_)
  exact ke_z cx hr hlk hI (Nat.zero_le _) (Nat.zero_le _) dX0_isKey_7 (b2i_nar _) rfl rfl
set_option maxHeartbeats 4000000 in
set_option maxRecDepth 100000 in
theorem kX0_isColumn (l : Launch) (D : va_G) (ca : Nat → ClassId) (col : Int32) : CM l yX0_isColumn cX0_isColumn 1 (some .boolean) (KR 1 22) D ca [] [.int col] (some (.int (b2i (xWithin col 0 2)))) [] := by
  refine CM.of (by decide) (Nat.le_of_ble_eq_true rfl) ?_
  intro p e s m below meth c A ls cx hml hr hlk hI hl
  have hl : lv_has ls 1 [(0, .int col)] := hl
  refine lv_iload_n cx.1 cx.2.1 dX0_isColumn_0 rfl (lv_at hl 0 rfl) ?_
  refine lv_iconst (v := 0) cx.1 cx.2.1 dX0_isColumn_1 (by decide) ?_
  refine lv_iconst (v := 2) cx.1 cx.2.1 dX0_isColumn_2 (by decide) ?_
  refine ks_i 3 cx (hl.1.trans hml.symm) (kX0_isWithin l D ca col 0 2) hI wk_143 wk_141 wk_142 wk_1 ⟨by decide, by decide, by decide +kernel⟩ rfl ⟨rfl, rfl⟩ ⟨Nat.le_of_ble_eq_true rfl, Nat.le_of_ble_eq_true rfl⟩ (Nat.le_of_ble_eq_true rfl) dX0_isColumn_3 ⟨Nat.zero_le _, Nat.zero_le _⟩ rfl (fun H locs hI => ?_)
  exact ke_z cx hr hlk hI (Nat.zero_le _) (Nat.zero_le _) dX0_isColumn_6 (b2i_nar _) rfl rfl
set_option maxHeartbeats 4000000 in
set_option maxRecDepth 100000 in
theorem kX0_fits (l : Launch) (D : va_G) (ca : Nat → ClassId) (ad : Nat → Nat) (v : XS) (b : Int32) : CM l yX0_fits cX0_fits 2 (some .boolean) (KR 0 0) D ca (xw ad ca v) [.ref (ad 0), .int b] (some (.int (b2i (xFits v b)))) (xw ad ca v) := by
  refine CM.of (by decide) (Nat.le_of_ble_eq_true rfl) ?_
  intro p e s m below meth c A ls cx hml hr hlk hI hl
  have hl : lv_has ls 2 [(0, .ref (ad 0)), (1, .int b)] := hl
  refine lv_aload_n cx.1 cx.2.1 dX0_fits_0 rfl (lv_at hl 0 rfl) ?_
  refine xg_8 cx hI dX0_fits_1 ?_
  refine lv_iconst (v := 1) cx.1 cx.2.1 dX0_fits_4 (by decide) ?_
  refine lv_icmp_ne (tgt := 16) cx.1 cx.2.1 dX0_fits_5 (by decide) (fun c_1 => ?_) (fun c_1 => ?_)
  · refine lv_iconst (v := 1) cx.1 cx.2.1 dX0_fits_16 (by decide) ?_
    refine lv_goto (tgt := 21) cx.1 cx.2.1 dX0_fits_17 (by decide) ?_
    exact ke_z cx hr hlk hI (Nat.zero_le _) (Nat.zero_le _) dX0_fits_21 rfl (congrArg (fun z => some (Value.int z)) (by simp [xFits, b2i, c_1])) rfl
  · refine lv_iload_n cx.1 cx.2.1 dX0_fits_8 rfl (lv_at hl 1 rfl) ?_
    refine lv_aload_n cx.1 cx.2.1 dX0_fits_9 rfl (lv_at hl 0 rfl) ?_
    refine xg_9 cx hI dX0_fits_10 ?_
    refine lv_icmp_gt (tgt := 20) cx.1 cx.2.1 dX0_fits_13 (by decide) (fun c_2 => ?_) (fun c_2 => ?_)
    · refine lv_iconst (v := 0) cx.1 cx.2.1 dX0_fits_20 (by decide) ?_
      exact ke_z cx hr hlk hI (Nat.zero_le _) (Nat.zero_le _) dX0_fits_21 rfl (congrArg (fun z => some (Value.int z)) (by simp [xFits, b2i, c_1, c_2])) rfl
    · refine lv_iconst (v := 1) cx.1 cx.2.1 dX0_fits_16 (by decide) ?_
      refine lv_goto (tgt := 21) cx.1 cx.2.1 dX0_fits_17 (by decide) ?_
      exact ke_z cx hr hlk hI (Nat.zero_le _) (Nat.zero_le _) dX0_fits_21 rfl (congrArg (fun z => some (Value.int z)) (by simp [xFits, b2i, c_1, c_2])) rfl
set_option maxHeartbeats 4000000 in
set_option maxRecDepth 100000 in
theorem kX0_canBeWritten (l : Launch) (D : va_G) (ca : Nat → ClassId) (ad : Nat → Nat) (v : XS) (a b : Int32) : CM l yX0_canBeWritten cX0_canBeWritten 3 (some .boolean) (KR 1 22) D ca (xw ad ca v) [.ref (ad 0), .int a, .int b] (some (.int (b2i (xCbw v a b)))) (xw ad ca v) := by
  refine CM.of (by decide) (Nat.le_of_ble_eq_true rfl) ?_
  intro p e s m below meth c A ls cx hml hr hlk hI hl
  have hl : lv_has ls 3 [(0, .ref (ad 0)), (1, .int a), (2, .int b)] := hl
  refine lv_iload_n cx.1 cx.2.1 dX0_canBeWritten_0 rfl (lv_at hl 1 rfl) ?_
  refine lv_iconst (v := 0) cx.1 cx.2.1 dX0_canBeWritten_1 (by decide) ?_
  refine lv_sipush (v := 999) cx.1 cx.2.1 dX0_canBeWritten_2 (by decide) ?_
  refine ks_i 3 cx (hl.1.trans hml.symm) (kX0_isWithin l D ca a 0 999) hI wk_143 wk_141 wk_142 wk_1 ⟨by decide, by decide, by decide +kernel⟩ rfl ⟨rfl, rfl⟩ ⟨Nat.le_of_ble_eq_true rfl, Nat.le_of_ble_eq_true rfl⟩ (Nat.le_of_ble_eq_true rfl) dX0_canBeWritten_5 ⟨Nat.zero_le _, Nat.zero_le _⟩ rfl (fun H locs hI => ?_)
  refine kb_eq (tgt := 42) cx dX0_canBeWritten_8 (by decide) (fun c_1 => ?_) (fun c_1 => ?_)
  · refine lv_iconst (v := 0) cx.1 cx.2.1 dX0_canBeWritten_42 (by decide) ?_
    exact ke_z cx hr hlk hI (Nat.zero_le _) (Nat.zero_le _) dX0_canBeWritten_43 rfl (congrArg (fun z => some (Value.int z)) (by simp [xCbw, b2i, c_1])) rfl
  · refine lv_iload_n cx.1 cx.2.1 dX0_canBeWritten_11 rfl (lv_at hl 2 rfl) ?_
    refine lv_iconst (v := 0) cx.1 cx.2.1 dX0_canBeWritten_12 (by decide) ?_
    refine lv_sipush (v := 999) cx.1 cx.2.1 dX0_canBeWritten_13 (by decide) ?_
    refine ks_i 3 cx (hl.1.trans hml.symm) (kX0_isWithin l D ca b 0 999) hI wk_143 wk_141 wk_142 wk_1 ⟨by decide, by decide, by decide +kernel⟩ rfl ⟨rfl, rfl⟩ ⟨Nat.le_of_ble_eq_true rfl, Nat.le_of_ble_eq_true rfl⟩ (Nat.le_of_ble_eq_true rfl) dX0_canBeWritten_16 ⟨Nat.zero_le _, Nat.zero_le _⟩ rfl (fun H locs hI => ?_)
    refine kb_eq (tgt := 42) cx dX0_canBeWritten_19 (by decide) (fun c_2 => ?_) (fun c_2 => ?_)
    · refine lv_iconst (v := 0) cx.1 cx.2.1 dX0_canBeWritten_42 (by decide) ?_
      exact ke_z cx hr hlk hI (Nat.zero_le _) (Nat.zero_le _) dX0_canBeWritten_43 rfl (congrArg (fun z => some (Value.int z)) (by simp [xCbw, b2i, c_1, c_2])) rfl
    · refine lv_aload_n cx.1 cx.2.1 dX0_canBeWritten_22 rfl (lv_at hl 0 rfl) ?_
      refine xg_6 cx hI dX0_canBeWritten_23 ?_
      refine lv_iconst (v := 2) cx.1 cx.2.1 dX0_canBeWritten_26 (by decide) ?_
      refine lv_icmp_ne (tgt := 38) cx.1 cx.2.1 dX0_canBeWritten_27 (by decide) (fun c_3 => ?_) (fun c_3 => ?_)
      · refine lv_iconst (v := 1) cx.1 cx.2.1 dX0_canBeWritten_38 (by decide) ?_
        refine lv_goto (tgt := 43) cx.1 cx.2.1 dX0_canBeWritten_39 (by decide) ?_
        exact ke_z cx hr hlk hI (Nat.zero_le _) (Nat.zero_le _) dX0_canBeWritten_43 rfl (congrArg (fun z => some (Value.int z)) (by simp [xCbw, b2i, c_1, c_2, c_3])) rfl
      · refine lv_aload_n cx.1 cx.2.1 dX0_canBeWritten_30 rfl (lv_at hl 0 rfl) ?_
        refine lv_iload_n cx.1 cx.2.1 dX0_canBeWritten_31 rfl (lv_at hl 2 rfl) ?_
        refine xc_i 1 cx (hl.1.trans hml.symm) (kX0_fits l D ca ad v b) hI wk_112 wk_109 wk_111 wq_5 ⟨rfl, by decide +kernel⟩ rfl ⟨rfl, rfl⟩ ⟨Nat.le_of_ble_eq_true rfl, Nat.le_of_ble_eq_true rfl⟩ (Nat.le_of_ble_eq_true rfl) dX0_canBeWritten_32 ⟨Nat.zero_le _, Nat.zero_le _⟩ rfl (fun H locs hI => ?_)
        refine kb_eq (tgt := 42) cx dX0_canBeWritten_35 (by decide) (fun c_4 => ?_) (fun c_4 => ?_)
        · refine lv_iconst (v := 0) cx.1 cx.2.1 dX0_canBeWritten_42 (by decide) ?_
          exact ke_z cx hr hlk hI (Nat.zero_le _) (Nat.zero_le _) dX0_canBeWritten_43 rfl (congrArg (fun z => some (Value.int z)) (by simp [xCbw, b2i, c_1, c_2, c_3, c_4])) rfl
        · refine lv_iconst (v := 1) cx.1 cx.2.1 dX0_canBeWritten_38 (by decide) ?_
          refine lv_goto (tgt := 43) cx.1 cx.2.1 dX0_canBeWritten_39 (by decide) ?_
          exact ke_z cx hr hlk hI (Nat.zero_le _) (Nat.zero_le _) dX0_canBeWritten_43 rfl (congrArg (fun z => some (Value.int z)) (by simp [xCbw, b2i, c_1, c_2, c_3, c_4])) rfl
set_option maxHeartbeats 4000000 in
set_option maxRecDepth 100000 in
theorem kX0_isInOld (l : Launch) (D : va_G) (ca : Nat → ClassId) (ad : Nat → Nat) (v : XS) (key : Int32) (hk : vp_in key 40) : CM l yX0_isInOld cX0_isInOld 2 (some .boolean) (KR 0 0) D ca (xw ad ca v) [.ref (ad 0), .int key] (some (.int (b2i (xOld v key)))) (xw ad ca v) := by
  refine CM.of (by decide) (Nat.le_of_ble_eq_true rfl) ?_
  intro p e s m below meth c A ls cx hml hr hlk hI hl
  have hl : lv_has ls 2 [(0, .ref (ad 0)), (1, .int key)] := hl
  refine lv_aload_n cx.1 cx.2.1 dX0_isInOld_0 rfl (lv_at hl 0 rfl) ?_
  refine xg_0 cx hI dX0_isInOld_1 ?_
  refine lv_iload_n cx.1 cx.2.1 dX0_isInOld_4 rfl (lv_at hl 1 rfl) ?_
  refine xa_A cx hI hk dX0_isInOld_5 ?_
  refine lv_iconst (v := (-1)) cx.1 cx.2.1 dX0_isInOld_6 (by decide) ?_
  refine lv_icmp_eq (tgt := 14) cx.1 cx.2.1 dX0_isInOld_7 (by decide) (fun c_1 => ?_) (fun c_1 => ?_)
  · refine lv_iconst (v := 0) cx.1 cx.2.1 dX0_isInOld_14 (by decide) ?_
    exact ke_z cx hr hlk hI (Nat.zero_le _) (Nat.zero_le _) dX0_isInOld_15 rfl (congrArg (fun z => some (Value.int z)) (by simp [xOld, b2i, c_1])) rfl
  · refine lv_iconst (v := 1) cx.1 cx.2.1 dX0_isInOld_10 (by decide) ?_
    refine lv_goto (tgt := 15) cx.1 cx.2.1 dX0_isInOld_11 (by decide) ?_
    exact ke_z cx hr hlk hI (Nat.zero_le _) (Nat.zero_le _) dX0_isInOld_15 rfl (congrArg (fun z => some (Value.int z)) (by simp [xOld, b2i, c_1])) rfl
set_option maxHeartbeats 4000000 in
set_option maxRecDepth 100000 in
theorem kX0_isInShadow (l : Launch) (D : va_G) (ca : Nat → ClassId) (ad : Nat → Nat) (v : XS) (key : Int32) (hk : vp_in key 40) : CM l yX0_isInShadow cX0_isInShadow 2 (some .boolean) (KR 0 0) D ca (xw ad ca v) [.ref (ad 0), .int key] (some (.int (b2i (xSh v key)))) (xw ad ca v) := by
  refine CM.of (by decide) (Nat.le_of_ble_eq_true rfl) ?_
  intro p e s m below meth c A ls cx hml hr hlk hI hl
  have hl : lv_has ls 2 [(0, .ref (ad 0)), (1, .int key)] := hl
  refine lv_aload_n cx.1 cx.2.1 dX0_isInShadow_0 rfl (lv_at hl 0 rfl) ?_
  refine xg_2 cx hI dX0_isInShadow_1 ?_
  refine lv_iconst (v := 0) cx.1 cx.2.1 dX0_isInShadow_4 (by decide) ?_
  refine xa_cols cx hI (vp0 (by decide) (by decide)) dX0_isInShadow_5 ?_
  refine lv_iload_n cx.1 cx.2.1 dX0_isInShadow_6 rfl (lv_at hl 1 rfl) ?_
  refine xa_col (j := 0) cx hI (vp0 (by decide) (by decide)) rfl hk dX0_isInShadow_7 ?_
  refine lv_iconst (v := (-1)) cx.1 cx.2.1 dX0_isInShadow_8 (by decide) ?_
  refine lv_icmp_eq (tgt := 16) cx.1 cx.2.1 dX0_isInShadow_9 (by decide) (fun c_1 => ?_) (fun c_1 => ?_)
  · refine lv_iconst (v := 0) cx.1 cx.2.1 dX0_isInShadow_16 (by decide) ?_
    exact ke_z cx hr hlk hI (Nat.zero_le _) (Nat.zero_le _) dX0_isInShadow_17 rfl (congrArg (fun z => some (Value.int z)) (by simp [xSh, b2i, c_1])) rfl
  · refine lv_iconst (v := 1) cx.1 cx.2.1 dX0_isInShadow_12 (by decide) ?_
    refine lv_goto (tgt := 17) cx.1 cx.2.1 dX0_isInShadow_13 (by decide) ?_
    exact ke_z cx hr hlk hI (Nat.zero_le _) (Nat.zero_le _) dX0_isInShadow_17 rfl (congrArg (fun z => some (Value.int z)) (by simp [xSh, b2i, c_1])) rfl
set_option maxHeartbeats 4000000 in
set_option maxRecDepth 100000 in
theorem kX0_isSeen (l : Launch) (D : va_G) (ca : Nat → ClassId) (ad : Nat → Nat) (v : XS) (key : Int32) (hk : vp_in key 40) : CM l yX0_isSeen cX0_isSeen 2 (some .boolean) (KR 1 21) D ca (xw ad ca v) [.ref (ad 0), .int key] (some (.int (b2i (xSeen v key)))) (xw ad ca v) := by
  refine CM.of (by decide) (Nat.le_of_ble_eq_true rfl) ?_
  intro p e s m below meth c A ls cx hml hr hlk hI hl
  have hl : lv_has ls 2 [(0, .ref (ad 0)), (1, .int key)] := hl
  refine lv_aload_n cx.1 cx.2.1 dX0_isSeen_0 rfl (lv_at hl 0 rfl) ?_
  refine lv_iload_n cx.1 cx.2.1 dX0_isSeen_1 rfl (lv_at hl 1 rfl) ?_
  refine xc_i 1 cx (hl.1.trans hml.symm) (kX0_isInOld l D ca ad v key hk) hI wk_76 wk_73 wk_75 wq_1 ⟨rfl, by decide +kernel⟩ rfl ⟨rfl, rfl⟩ ⟨Nat.le_of_ble_eq_true rfl, Nat.le_of_ble_eq_true rfl⟩ (Nat.le_of_ble_eq_true rfl) dX0_isSeen_2 ⟨Nat.zero_le _, Nat.zero_le _⟩ rfl (fun H locs hI => ?_)
  refine kb_eq (tgt := 28) cx dX0_isSeen_5 (by decide) (fun c_1 => ?_) (fun c_1 => ?_)
  · refine lv_iconst (v := 0) cx.1 cx.2.1 dX0_isSeen_28 (by decide) ?_
    exact ke_z cx hr hlk hI (Nat.zero_le _) (Nat.zero_le _) dX0_isSeen_29 rfl (congrArg (fun z => some (Value.int z)) (by simp [xSeen, b2i, c_1])) rfl
  · refine lv_aload_n cx.1 cx.2.1 dX0_isSeen_8 rfl (lv_at hl 0 rfl) ?_
    refine xg_6 cx hI dX0_isSeen_9 ?_
    refine lv_iconst (v := 2) cx.1 cx.2.1 dX0_isSeen_12 (by decide) ?_
    refine lv_icmp_ne (tgt := 24) cx.1 cx.2.1 dX0_isSeen_13 (by decide) (fun c_2 => ?_) (fun c_2 => ?_)
    · refine lv_iconst (v := 1) cx.1 cx.2.1 dX0_isSeen_24 (by decide) ?_
      refine lv_goto (tgt := 29) cx.1 cx.2.1 dX0_isSeen_25 (by decide) ?_
      exact ke_z cx hr hlk hI (Nat.zero_le _) (Nat.zero_le _) dX0_isSeen_29 rfl (congrArg (fun z => some (Value.int z)) (by simp [xSeen, b2i, c_1, c_2])) rfl
    · refine lv_aload_n cx.1 cx.2.1 dX0_isSeen_16 rfl (lv_at hl 0 rfl) ?_
      refine lv_iload_n cx.1 cx.2.1 dX0_isSeen_17 rfl (lv_at hl 1 rfl) ?_
      refine xc_i 1 cx (hl.1.trans hml.symm) (kX0_isInShadow l D ca ad v key hk) hI wk_80 wk_77 wk_79 wq_2 ⟨rfl, by decide +kernel⟩ rfl ⟨rfl, rfl⟩ ⟨Nat.le_of_ble_eq_true rfl, Nat.le_of_ble_eq_true rfl⟩ (Nat.le_of_ble_eq_true rfl) dX0_isSeen_18 ⟨Nat.zero_le _, Nat.zero_le _⟩ rfl (fun H locs hI => ?_)
      refine kb_eq (tgt := 28) cx dX0_isSeen_21 (by decide) (fun c_3 => ?_) (fun c_3 => ?_)
      · refine lv_iconst (v := 0) cx.1 cx.2.1 dX0_isSeen_28 (by decide) ?_
        exact ke_z cx hr hlk hI (Nat.zero_le _) (Nat.zero_le _) dX0_isSeen_29 rfl (congrArg (fun z => some (Value.int z)) (by simp [xSeen, b2i, c_1, c_2, c_3])) rfl
      · refine lv_iconst (v := 1) cx.1 cx.2.1 dX0_isSeen_24 (by decide) ?_
        refine lv_goto (tgt := 29) cx.1 cx.2.1 dX0_isSeen_25 (by decide) ?_
        exact ke_z cx hr hlk hI (Nat.zero_le _) (Nat.zero_le _) dX0_isSeen_29 rfl (congrArg (fun z => some (Value.int z)) (by simp [xSeen, b2i, c_1, c_2, c_3])) rfl
set_option maxHeartbeats 4000000 in
set_option maxRecDepth 100000 in
theorem kX0_rowAsNumber (l : Launch) (D : va_G) (ca : Nat → ClassId) (ad : Nat → Nat) (v : XS) (key : Int32) (hk : vp_in key 40) : CM l yX0_rowAsNumber cX0_rowAsNumber 2 (some .int) (KR 0 0) D ca (xw ad ca v) [.ref (ad 0), .int key] (some (.int (xRow v key))) (xw ad ca v) := by
  refine CM.of (by decide) (Nat.le_of_ble_eq_true rfl) ?_
  intro p e s m below meth c A ls cx hml hr hlk hI hl
  have hl : lv_has ls 2 [(0, .ref (ad 0)), (1, .int key)] := hl
  refine lv_sipush (v := 1000) cx.1 cx.2.1 dX0_rowAsNumber_0 (by decide) ?_
  refine lv_aload_n cx.1 cx.2.1 dX0_rowAsNumber_3 rfl (lv_at hl 0 rfl) ?_
  refine xg_0 cx hI dX0_rowAsNumber_4 ?_
  refine lv_iload_n cx.1 cx.2.1 dX0_rowAsNumber_7 rfl (lv_at hl 1 rfl) ?_
  refine xa_A cx hI hk dX0_rowAsNumber_8 ?_
  refine lv_imul cx.1 cx.2.1 dX0_rowAsNumber_9 ?_
  refine lv_aload_n cx.1 cx.2.1 dX0_rowAsNumber_10 rfl (lv_at hl 0 rfl) ?_
  refine xg_1 cx hI dX0_rowAsNumber_11 ?_
  refine lv_iload_n cx.1 cx.2.1 dX0_rowAsNumber_14 rfl (lv_at hl 1 rfl) ?_
  refine xa_B cx hI hk dX0_rowAsNumber_15 ?_
  refine lv_iadd cx.1 cx.2.1 dX0_rowAsNumber_16 ?_
  exact ke_i cx hr hlk hI (Nat.zero_le _) (Nat.zero_le _) dX0_rowAsNumber_17 (congrArg (fun z => some (Value.int z)) (by simp [xRow])) rfl
set_option maxHeartbeats 4000000 in
set_option maxRecDepth 100000 in
theorem kX0_putRow (l : Launch) (D : va_G) (ca : Nat → ClassId) (ad : Nat → Nat) (v : XS) (key a b : Int32) (hk : vp_in key 40) : CM l yX0_putRow cX0_putRow 4 none (KR 0 0) D ca (xw ad ca v) [.ref (ad 0), .int key, .int a, .int b] none (xw ad ca (xPut v key a b)) := by
  refine CM.of (by decide) (Nat.le_of_ble_eq_true rfl) ?_
  intro p e s m below meth c A ls cx hml hr hlk hI hl
  have hl : lv_has ls 4 [(0, .ref (ad 0)), (1, .int key), (2, .int a), (3, .int b)] := hl
  refine lv_aload_n cx.1 cx.2.1 dX0_putRow_0 rfl (lv_at hl 0 rfl) ?_
  refine xg_0 cx hI dX0_putRow_1 ?_
  refine lv_iload_n cx.1 cx.2.1 dX0_putRow_4 rfl (lv_at hl 1 rfl) ?_
  refine lv_iload_n cx.1 cx.2.1 dX0_putRow_5 rfl (lv_at hl 2 rfl) ?_
  refine xs_A cx hI hk dX0_putRow_6 (fun H locs hI => ?_)
  refine lv_aload_n cx.1 cx.2.1 dX0_putRow_7 rfl (lv_at hl 0 rfl) ?_
  refine xg_1 cx hI dX0_putRow_8 ?_
  refine lv_iload_n cx.1 cx.2.1 dX0_putRow_11 rfl (lv_at hl 1 rfl) ?_
  refine lv_iload_n cx.1 cx.2.1 dX0_putRow_12 rfl (lv_at hl 3 rfl) ?_
  refine xs_B cx hI hk dX0_putRow_13 (fun H locs hI => ?_)
  exact ke_v cx hr hlk hI (Nat.zero_le _) (Nat.zero_le _) dX0_putRow_14 rfl (congrArg (xw ad ca) (by simp [xPut]))
set_option maxHeartbeats 4000000 in
set_option maxRecDepth 100000 in
theorem kX0_removeRow (l : Launch) (D : va_G) (ca : Nat → ClassId) (ad : Nat → Nat) (v : XS) (key : Int32) (hk : vp_in key 40) : CM l yX0_removeRow cX0_removeRow 2 none (KR 1 23) D ca (xw ad ca v) [.ref (ad 0), .int key] none (xw ad ca (xPut v key (-1) (-1))) := by
  refine CM.of (by decide) (Nat.le_of_ble_eq_true rfl) ?_
  intro p e s m below meth c A ls cx hml hr hlk hI hl
  have hl : lv_has ls 2 [(0, .ref (ad 0)), (1, .int key)] := hl
  refine lv_aload_n cx.1 cx.2.1 dX0_removeRow_0 rfl (lv_at hl 0 rfl) ?_
  refine lv_iload_n cx.1 cx.2.1 dX0_removeRow_1 rfl (lv_at hl 1 rfl) ?_
  refine lv_iconst (v := (-1)) cx.1 cx.2.1 dX0_removeRow_2 (by decide) ?_
  refine lv_iconst (v := (-1)) cx.1 cx.2.1 dX0_removeRow_3 (by decide) ?_
  refine xc_v 3 cx (hl.1.trans hml.symm) (kX0_putRow l D ca ad v key (-1) (-1) hk) hI wk_252 wk_249 wk_251 wq_11 ⟨rfl, by decide +kernel⟩ rfl ⟨rfl, rfl⟩ ⟨Nat.le_of_ble_eq_true rfl, Nat.le_of_ble_eq_true rfl⟩ (Nat.le_of_ble_eq_true rfl) dX0_removeRow_4 ⟨Nat.zero_le _, Nat.zero_le _⟩ rfl (fun H locs hI => ?_)
  exact ke_v cx hr hlk hI (Nat.zero_le _) (Nat.zero_le _) dX0_removeRow_7 rfl rfl
set_option maxHeartbeats 4000000 in
set_option maxRecDepth 100000 in
theorem kX0_digits (l : Launch) (D : va_G) (ca : Nat → ClassId) (b : Int32) : CM l yX0_digits cX0_digits 1 (some .int) (KR 0 0) D ca [] [.int b] (some (.int (xDig b))) [] := by
  refine CM.of (by decide) (Nat.le_of_ble_eq_true rfl) ?_
  intro p e s m below meth c A ls cx hml hr hlk hI hl
  have hl : lv_has ls 1 [(0, .int b)] := hl
  refine lv_iload_n cx.1 cx.2.1 dX0_digits_0 rfl (lv_at hl 0 rfl) ?_
  refine lv_bipush (v := 10) cx.1 cx.2.1 dX0_digits_1 (by decide) ?_
  refine lv_icmp_ge (tgt := 8) cx.1 cx.2.1 dX0_digits_3 (by decide) (fun c_1 => ?_) (fun c_1 => ?_)
  · refine lv_iload_n cx.1 cx.2.1 dX0_digits_8 rfl (lv_at hl 0 rfl) ?_
    refine lv_bipush (v := 100) cx.1 cx.2.1 dX0_digits_9 (by decide) ?_
    refine lv_icmp_ge (tgt := 18) cx.1 cx.2.1 dX0_digits_11 (by decide) (fun c_2 => ?_) (fun c_2 => ?_)
    · refine lv_iconst (v := 3) cx.1 cx.2.1 dX0_digits_18 (by decide) ?_
      exact ke_i cx hr hlk hI (Nat.zero_le _) (Nat.zero_le _) dX0_digits_19 (congrArg (fun z => some (Value.int z)) (by simp [xDig, c_1, c_2])) rfl
    · refine lv_iconst (v := 2) cx.1 cx.2.1 dX0_digits_14 (by decide) ?_
      refine lv_goto (tgt := 19) cx.1 cx.2.1 dX0_digits_15 (by decide) ?_
      exact ke_i cx hr hlk hI (Nat.zero_le _) (Nat.zero_le _) dX0_digits_19 (congrArg (fun z => some (Value.int z)) (by simp [xDig, c_1, c_2])) rfl
  · refine lv_iconst (v := 1) cx.1 cx.2.1 dX0_digits_6 (by decide) ?_
    exact ke_i cx hr hlk hI (Nat.zero_le _) (Nat.zero_le _) dX0_digits_7 (congrArg (fun z => some (Value.int z)) (by simp [xDig, c_1])) rfl
set_option maxHeartbeats 4000000 in
set_option maxRecDepth 100000 in
theorem kX0_alteredMiddle (l : Launch) (D : va_G) (ca : Nat → ClassId) (ad : Nat → Nat) (v : XS) (a b : Int32) : CM l yX0_alteredMiddle cX0_alteredMiddle 3 (some .int) (KR 0 0) D ca (xw ad ca v) [.ref (ad 0), .int a, .int b] (some (.int (xMid v a b))) (xw ad ca v) := by
  refine CM.of (by decide) (Nat.le_of_ble_eq_true rfl) ?_
  intro p e s m below meth c A ls cx hml hr hlk hI hl
  have hl : lv_has ls 3 [(0, .ref (ad 0)), (1, .int a), (2, .int b)] := hl
  refine lv_aload_n cx.1 cx.2.1 dX0_alteredMiddle_0 rfl (lv_at hl 0 rfl) ?_
  refine xg_8 cx hI dX0_alteredMiddle_1 ?_
  rcases Decidable.em (xt v = 0) with c_1 | c_1
  · refine lv_lookup (off := 28) (tgt := 32) cx.1 cx.2.1 dX0_alteredMiddle_4 (by decide) ( (by rw [c_1]; decide)) (by decide) ?_
    refine lv_iload_n cx.1 cx.2.1 dX0_alteredMiddle_32 rfl (lv_at hl 1 rfl) ?_
    refine lv_bipush (v := 100) cx.1 cx.2.1 dX0_alteredMiddle_33 (by decide) ?_
    refine lv_irem cx.1 cx.2.1 dX0_alteredMiddle_35 (by decide) ?_
    exact ke_i cx hr hlk hI (Nat.zero_le _) (Nat.zero_le _) dX0_alteredMiddle_36 (congrArg (fun z => some (Value.int z)) (by simp [xMid, c_1])) rfl
  ·
    rcases Decidable.em (xt v = 1) with c_2 | c_2
    · refine lv_lookup (off := 33) (tgt := 37) cx.1 cx.2.1 dX0_alteredMiddle_4 (by decide) ((lv_osw c_1 (by decide)).trans <| (by rw [c_2]; decide)) (by decide) ?_
      refine lv_iload_n cx.1 cx.2.1 dX0_alteredMiddle_37 rfl (lv_at hl 2 rfl) ?_
      exact ke_i cx hr hlk hI (Nat.zero_le _) (Nat.zero_le _) dX0_alteredMiddle_38 (congrArg (fun z => some (Value.int z)) (by simp [xMid, c_2, c_1])) rfl
    ·
      refine lv_lookup (off := 35) (tgt := 39) cx.1 cx.2.1 dX0_alteredMiddle_4 (by decide) ((lv_osw c_1 (by decide)).trans <| (lv_osw c_2 (by decide)).trans <| rfl) (by decide) ?_
      refine lv_iload_n cx.1 cx.2.1 dX0_alteredMiddle_39 rfl (lv_at hl 2 rfl) ?_
      refine lv_aload_n cx.1 cx.2.1 dX0_alteredMiddle_40 rfl (lv_at hl 0 rfl) ?_
      refine xg_9 cx hI dX0_alteredMiddle_41 ?_
      refine lv_imul cx.1 cx.2.1 dX0_alteredMiddle_44 ?_
      exact ke_i cx hr hlk hI (Nat.zero_le _) (Nat.zero_le _) dX0_alteredMiddle_45 (congrArg (fun z => some (Value.int z)) (by simp [xMid, c_1, c_2])) rfl
set_option maxHeartbeats 4000000 in
set_option maxRecDepth 100000 in
theorem kX0_alteredLast (l : Launch) (D : va_G) (ca : Nat → ClassId) (ad : Nat → Nat) (v : XS) (b : Int32) : CM l yX0_alteredLast cX0_alteredLast 2 (some .int) (KR 1 20) D ca (xw ad ca v) [.ref (ad 0), .int b] (some (.int (xLast v b))) (xw ad ca v) := by
  refine CM.of (by decide) (Nat.le_of_ble_eq_true rfl) ?_
  intro p e s m below meth c A ls cx hml hr hlk hI hl
  have hl : lv_has ls 2 [(0, .ref (ad 0)), (1, .int b)] := hl
  refine lv_aload_n cx.1 cx.2.1 dX0_alteredLast_0 rfl (lv_at hl 0 rfl) ?_
  refine xg_8 cx hI dX0_alteredLast_1 ?_
  rcases Decidable.em (xt v = 0) with c_1 | c_1
  · refine lv_lookup (off := 28) (tgt := 32) cx.1 cx.2.1 dX0_alteredLast_4 (by decide) ( (by rw [c_1]; decide)) (by decide) ?_
    refine lv_iload_n cx.1 cx.2.1 dX0_alteredLast_32 rfl (lv_at hl 1 rfl) ?_
    exact ke_i cx hr hlk hI (Nat.zero_le _) (Nat.zero_le _) dX0_alteredLast_33 (congrArg (fun z => some (Value.int z)) (by simp [xLast, c_1])) rfl
  ·
    rcases Decidable.em (xt v = 1) with c_2 | c_2
    · refine lv_lookup (off := 30) (tgt := 34) cx.1 cx.2.1 dX0_alteredLast_4 (by decide) ((lv_osw c_1 (by decide)).trans <| (by rw [c_2]; decide)) (by decide) ?_
      refine lv_iconst (v := 0) cx.1 cx.2.1 dX0_alteredLast_34 (by decide) ?_
      exact ke_i cx hr hlk hI (Nat.zero_le _) (Nat.zero_le _) dX0_alteredLast_35 (congrArg (fun z => some (Value.int z)) (by simp [xLast, c_2, c_1])) rfl
    ·
      refine lv_lookup (off := 32) (tgt := 36) cx.1 cx.2.1 dX0_alteredLast_4 (by decide) ((lv_osw c_1 (by decide)).trans <| (lv_osw c_2 (by decide)).trans <| rfl) (by decide) ?_
      refine lv_iload_n cx.1 cx.2.1 dX0_alteredLast_36 rfl (lv_at hl 1 rfl) ?_
      refine ks_i 1 cx (hl.1.trans hml.symm) (kX0_digits l D ca b) hI wk_127 wk_125 wk_126 wk_1 ⟨by decide, by decide, by decide +kernel⟩ rfl ⟨rfl, rfl⟩ ⟨Nat.le_of_ble_eq_true rfl, Nat.le_of_ble_eq_true rfl⟩ (Nat.le_of_ble_eq_true rfl) dX0_alteredLast_37 ⟨Nat.zero_le _, Nat.zero_le _⟩ rfl (fun H locs hI => ?_)
      exact ke_i cx hr hlk hI (Nat.zero_le _) (Nat.zero_le _) dX0_alteredLast_40 (congrArg (fun z => some (Value.int z)) (by simp [xLast, c_1, c_2])) rfl
set_option maxHeartbeats 4000000 in
set_option maxRecDepth 100000 in
theorem kX0_alteredColumn (l : Launch) (D : va_G) (ca : Nat → ClassId) (ad : Nat → Nat) (v : XS) (a b col : Int32) : CM l yX0_alteredColumn cX0_alteredColumn 4 (some .int) (KR 2 41) D ca (xw ad ca v) [.ref (ad 0), .int a, .int b, .int col] (some (.int (xAlt v a b col))) (xw ad ca v) := by
  refine CM.of (by decide) (Nat.le_of_ble_eq_true rfl) ?_
  intro p e s m below meth c A ls cx hml hr hlk hI hl
  have hl : lv_has ls 4 [(0, .ref (ad 0)), (1, .int a), (2, .int b), (3, .int col)] := hl
  refine lv_iload_n cx.1 cx.2.1 dX0_alteredColumn_0 rfl (lv_at hl 3 rfl) ?_
  rcases Decidable.em (col = 0) with c_1 | c_1
  · refine lv_lookup (off := 27) (tgt := 28) cx.1 cx.2.1 dX0_alteredColumn_1 (by decide) ( (by rw [c_1]; decide)) (by decide) ?_
    refine lv_aload_n cx.1 cx.2.1 dX0_alteredColumn_28 rfl (lv_at hl 0 rfl) ?_
    refine xg_8 cx hI dX0_alteredColumn_29 ?_
    refine lv_if_ne (tgt := 42) cx.1 cx.2.1 dX0_alteredColumn_32 (by decide) (fun c_2 => ?_) (fun c_2 => ?_)
    · refine lv_iload_n cx.1 cx.2.1 dX0_alteredColumn_42 rfl (lv_at hl 1 rfl) ?_
      exact ke_i cx hr hlk hI (Nat.zero_le _) (Nat.zero_le _) dX0_alteredColumn_43 (congrArg (fun z => some (Value.int z)) (by simp [xAlt, c_1, c_2])) rfl
    · refine lv_iload_n cx.1 cx.2.1 dX0_alteredColumn_35 rfl (lv_at hl 1 rfl) ?_
      refine lv_bipush (v := 100) cx.1 cx.2.1 dX0_alteredColumn_36 (by decide) ?_
      refine lv_idiv cx.1 cx.2.1 dX0_alteredColumn_38 (by decide) ?_
      refine lv_goto (tgt := 43) cx.1 cx.2.1 dX0_alteredColumn_39 (by decide) ?_
      exact ke_i cx hr hlk hI (Nat.zero_le _) (Nat.zero_le _) dX0_alteredColumn_43 (congrArg (fun z => some (Value.int z)) (by simp [xAlt, c_1, c_2])) rfl
  ·
    rcases Decidable.em (col = 1) with c_3 | c_3
    · refine lv_lookup (off := 43) (tgt := 44) cx.1 cx.2.1 dX0_alteredColumn_1 (by decide) ((lv_osw c_1 (by decide)).trans <| (by rw [c_3]; decide)) (by decide) ?_
      refine lv_aload_n cx.1 cx.2.1 dX0_alteredColumn_44 rfl (lv_at hl 0 rfl) ?_
      refine lv_iload_n cx.1 cx.2.1 dX0_alteredColumn_45 rfl (lv_at hl 1 rfl) ?_
      refine lv_iload_n cx.1 cx.2.1 dX0_alteredColumn_46 rfl (lv_at hl 2 rfl) ?_
      refine xc_i 2 cx (hl.1.trans hml.symm) (kX0_alteredMiddle l D ca ad v a b) hI wk_120 wk_117 wk_119 wq_7 ⟨rfl, by decide +kernel⟩ rfl ⟨rfl, rfl⟩ ⟨Nat.le_of_ble_eq_true rfl, Nat.le_of_ble_eq_true rfl⟩ (Nat.le_of_ble_eq_true rfl) dX0_alteredColumn_47 ⟨Nat.zero_le _, Nat.zero_le _⟩ rfl (fun H locs hI => ?_)
      exact ke_i cx hr hlk hI (Nat.zero_le _) (Nat.zero_le _) dX0_alteredColumn_50 (congrArg (fun z => some (Value.int z)) (by simp [xAlt, c_3, c_1])) rfl
    ·
      refine lv_lookup (off := 50) (tgt := 51) cx.1 cx.2.1 dX0_alteredColumn_1 (by decide) ((lv_osw c_1 (by decide)).trans <| (lv_osw c_3 (by decide)).trans <| rfl) (by decide) ?_
      refine lv_aload_n cx.1 cx.2.1 dX0_alteredColumn_51 rfl (lv_at hl 0 rfl) ?_
      refine lv_iload_n cx.1 cx.2.1 dX0_alteredColumn_52 rfl (lv_at hl 2 rfl) ?_
      refine xc_i 1 cx (hl.1.trans hml.symm) (kX0_alteredLast l D ca ad v b) hI wk_124 wk_121 wk_123 wq_8 ⟨rfl, by decide +kernel⟩ rfl ⟨rfl, rfl⟩ ⟨Nat.le_of_ble_eq_true rfl, Nat.le_of_ble_eq_true rfl⟩ (Nat.le_of_ble_eq_true rfl) dX0_alteredColumn_53 ⟨Nat.zero_le _, Nat.zero_le _⟩ rfl (fun H locs hI => ?_)
      exact ke_i cx hr hlk hI (Nat.zero_le _) (Nat.zero_le _) dX0_alteredColumn_56 (congrArg (fun z => some (Value.int z)) (by simp [xAlt, c_1, c_3])) rfl
set_option maxHeartbeats 4000000 in
set_option maxRecDepth 100000 in
theorem kX0_broughtColumn (l : Launch) (D : va_G) (ca : Nat → ClassId) (ad : Nat → Nat) (v : XS) (key col : Int32) (hk : vp_in key 40) : CM l yX0_broughtColumn cX0_broughtColumn 3 (some .int) (KR 3 64) D ca (xw ad ca v) [.ref (ad 0), .int key, .int col] (some (.int (xBro v key col))) (xw ad ca v) := by
  refine CM.of (by decide) (Nat.le_of_ble_eq_true rfl) ?_
  intro p e s m below meth c A ls cx hml hr hlk hI hl
  have hl : lv_has ls 3 [(0, .ref (ad 0)), (1, .int key), (2, .int col)] := hl
  refine lv_aload_n cx.1 cx.2.1 dX0_broughtColumn_0 rfl (lv_at hl 0 rfl) ?_
  refine lv_iload_n cx.1 cx.2.1 dX0_broughtColumn_1 rfl (lv_at hl 1 rfl) ?_
  refine xc_i 1 cx (hl.1.trans hml.symm) (kX0_isInOld l D ca ad v key hk) hI wk_76 wk_73 wk_75 wq_1 ⟨rfl, by decide +kernel⟩ rfl ⟨rfl, rfl⟩ ⟨Nat.le_of_ble_eq_true rfl, Nat.le_of_ble_eq_true rfl⟩ (Nat.le_of_ble_eq_true rfl) dX0_broughtColumn_2 ⟨Nat.zero_le _, Nat.zero_le _⟩ rfl (fun H locs hI => ?_)
  refine kb_eq (tgt := 21) cx dX0_broughtColumn_5 (by decide) (fun c_1 => ?_) (fun c_1 => ?_)
  · refine lv_iconst (v := (-1)) cx.1 cx.2.1 dX0_broughtColumn_21 (by decide) ?_
    exact ke_i cx hr hlk hI (Nat.zero_le _) (Nat.zero_le _) dX0_broughtColumn_22 (congrArg (fun z => some (Value.int z)) (by simp [xBro, c_1])) rfl
  · refine lv_aload_n cx.1 cx.2.1 dX0_broughtColumn_8 rfl (lv_at hl 0 rfl) ?_
    refine lv_aload_n cx.1 cx.2.1 dX0_broughtColumn_9 rfl (lv_at hl 0 rfl) ?_
    refine xg_1 cx hI dX0_broughtColumn_10 ?_
    refine lv_iload_n cx.1 cx.2.1 dX0_broughtColumn_13 rfl (lv_at hl 1 rfl) ?_
    refine xa_B cx hI hk dX0_broughtColumn_14 ?_
    refine xc_i 1 cx (hl.1.trans hml.symm) (kX0_fits l D ca ad v (xB v key.toNatClampNeg)) hI wk_112 wk_109 wk_111 wq_5 ⟨rfl, by decide +kernel⟩ rfl ⟨rfl, rfl⟩ ⟨Nat.le_of_ble_eq_true rfl, Nat.le_of_ble_eq_true rfl⟩ (Nat.le_of_ble_eq_true rfl) dX0_broughtColumn_15 ⟨Nat.zero_le _, Nat.zero_le _⟩ rfl (fun H locs hI => ?_)
    refine kb_ne (tgt := 23) cx dX0_broughtColumn_18 (by decide) (fun c_2 => ?_) (fun c_2 => ?_)
    · refine lv_aload_n cx.1 cx.2.1 dX0_broughtColumn_23 rfl (lv_at hl 0 rfl) ?_
      refine lv_aload_n cx.1 cx.2.1 dX0_broughtColumn_24 rfl (lv_at hl 0 rfl) ?_
      refine xg_0 cx hI dX0_broughtColumn_25 ?_
      refine lv_iload_n cx.1 cx.2.1 dX0_broughtColumn_28 rfl (lv_at hl 1 rfl) ?_
      refine xa_A cx hI hk dX0_broughtColumn_29 ?_
      refine lv_aload_n cx.1 cx.2.1 dX0_broughtColumn_30 rfl (lv_at hl 0 rfl) ?_
      refine xg_1 cx hI dX0_broughtColumn_31 ?_
      refine lv_iload_n cx.1 cx.2.1 dX0_broughtColumn_34 rfl (lv_at hl 1 rfl) ?_
      refine xa_B cx hI hk dX0_broughtColumn_35 ?_
      refine lv_iload_n cx.1 cx.2.1 dX0_broughtColumn_36 rfl (lv_at hl 2 rfl) ?_
      refine xc_i 3 cx (hl.1.trans hml.symm) (kX0_alteredColumn l D ca ad v (xA v key.toNatClampNeg) (xB v key.toNatClampNeg) col) hI wk_116 wk_113 wk_115 wq_6 ⟨rfl, by decide +kernel⟩ rfl ⟨rfl, rfl⟩ ⟨Nat.le_of_ble_eq_true rfl, Nat.le_of_ble_eq_true rfl⟩ (Nat.le_of_ble_eq_true rfl) dX0_broughtColumn_37 ⟨Nat.zero_le _, Nat.zero_le _⟩ rfl (fun H locs hI => ?_)
      exact ke_i cx hr hlk hI (Nat.zero_le _) (Nat.zero_le _) dX0_broughtColumn_40 (congrArg (fun z => some (Value.int z)) (by simp [xBro, c_1, c_2])) rfl
    · refine lv_iconst (v := (-1)) cx.1 cx.2.1 dX0_broughtColumn_21 (by decide) ?_
      exact ke_i cx hr hlk hI (Nat.zero_le _) (Nat.zero_le _) dX0_broughtColumn_22 (congrArg (fun z => some (Value.int z)) (by simp [xBro, c_1, c_2])) rfl
set_option maxHeartbeats 4000000 in
set_option maxRecDepth 100000 in
theorem kX0_noteKey (l : Launch) (D : va_G) (ca : Nat → ClassId) (ad : Nat → Nat) (v : XS) (key : Int32) (h0 : ¬ xc v < 0) : CM l yX0_noteKey cX0_noteKey 2 none (KR 0 0) D ca (xw ad ca v) [.ref (ad 0), .int key] none (xw ad ca (xNote v key)) := by
  refine CM.of (by decide) (Nat.le_of_ble_eq_true rfl) ?_
  intro p e s m below meth c A ls cx hml hr hlk hI hl
  have hl : lv_has ls 2 [(0, .ref (ad 0)), (1, .int key)] := hl
  refine lv_aload_n cx.1 cx.2.1 dX0_noteKey_0 rfl (lv_at hl 0 rfl) ?_
  refine xg_5 cx hI dX0_noteKey_1 ?_
  refine lv_sipush (v := 1024) cx.1 cx.2.1 dX0_noteKey_4 (by decide) ?_
  refine lv_icmp_ge (tgt := 30) cx.1 cx.2.1 dX0_noteKey_7 (by decide) (fun c_1 => ?_) (fun c_1 => ?_)
  · exact ke_v cx hr hlk hI (Nat.zero_le _) (Nat.zero_le _) dX0_noteKey_30 rfl (congrArg (xw ad ca) (by simp [xNote, c_1]))
  · refine lv_aload_n cx.1 cx.2.1 dX0_noteKey_10 rfl (lv_at hl 0 rfl) ?_
    refine xg_4 cx hI dX0_noteKey_11 ?_
    refine lv_aload_n cx.1 cx.2.1 dX0_noteKey_14 rfl (lv_at hl 0 rfl) ?_
    refine xg_5 cx hI dX0_noteKey_15 ?_
    refine lv_iload_n cx.1 cx.2.1 dX0_noteKey_18 rfl (lv_at hl 1 rfl) ?_
    refine xs_N cx hI (kin_of h0 c_1) dX0_noteKey_19 (fun H locs hI => ?_)
    refine lv_aload_n cx.1 cx.2.1 dX0_noteKey_20 rfl (lv_at hl 0 rfl) ?_
    refine lv_dup cx.1 cx.2.1 dX0_noteKey_21 rfl ?_
    refine xg_5 cx hI dX0_noteKey_22 ?_
    refine lv_iconst (v := 1) cx.1 cx.2.1 dX0_noteKey_25 (by decide) ?_
    refine lv_iadd cx.1 cx.2.1 dX0_noteKey_26 ?_
    refine xp_5 cx hI dX0_noteKey_27 (fun H locs hI => ?_)
    exact ke_v cx hr hlk hI (Nat.zero_le _) (Nat.zero_le _) dX0_noteKey_30 rfl (congrArg (xw ad ca) (by simp [xNote, c_1]))
end
section
set_option maxHeartbeats 4000000 in
set_option maxRecDepth 100000 in
theorem kX0_bring (l : Launch) (D : va_G) (ca : Nat → ClassId) (ad : Nat → Nat) (v : XS) (key : Int32) (hk : vp_in key 40) : CM l yX0_bring cX0_bring 3 none (KR 4 86) D ca (xw ad ca v) [.ref (ad 0), .int key] none (xw ad ca (xBring v key)) := by
  refine CM.of (by decide) (Nat.le_of_ble_eq_true rfl) ?_
  intro p e s m below meth c A ls cx hml hr hlk hI hl
  have hl : lv_has ls 3 [(0, .ref (ad 0)), (1, .int key)] := hl
  refine lv_iconst (v := 0) cx.1 cx.2.1 dX0_bring_0 (by decide) ?_
  refine lv_istore_n (lv' := [(2, .int 0), (0, .ref (ad 0)), (1, .int key)]) cx.1 cx.2.1 dX0_bring_1 rfl hl (by decide) rfl (fun ls hl => ?_)
  refine lv_iload_n cx.1 cx.2.1 dX0_bring_2 rfl (lv_at hl 0 rfl) ?_
  refine lv_iconst (v := 3) cx.1 cx.2.1 dX0_bring_3 (by decide) ?_
  refine lv_icmp_ge (tgt := 27) cx.1 cx.2.1 dX0_bring_4 (by decide) (fun h9 => absurd h9 (by decide)) (fun _ => ?_)
  refine lv_aload_n cx.1 cx.2.1 dX0_bring_7 rfl (lv_at hl 1 rfl) ?_
  refine xg_2 cx hI dX0_bring_8 ?_
  refine lv_iload_n cx.1 cx.2.1 dX0_bring_11 rfl (lv_at hl 0 rfl) ?_
  refine xa_cols cx hI (vp0 (by decide) (by decide)) dX0_bring_12 ?_
  refine lv_iload_n cx.1 cx.2.1 dX0_bring_13 rfl (lv_at hl 2 rfl) ?_
  refine lv_aload_n cx.1 cx.2.1 dX0_bring_14 rfl (lv_at hl 1 rfl) ?_
  refine lv_iload_n cx.1 cx.2.1 dX0_bring_15 rfl (lv_at hl 2 rfl) ?_
  refine lv_iload_n cx.1 cx.2.1 dX0_bring_16 rfl (lv_at hl 0 rfl) ?_
  refine xc_i 2 cx (hl.1.trans hml.symm) (kX0_broughtColumn l D ca ad v key 0 hk) hI wk_108 wk_105 wk_107 wq_4 ⟨rfl, by decide +kernel⟩ rfl ⟨rfl, rfl⟩ ⟨Nat.le_of_ble_eq_true rfl, Nat.le_of_ble_eq_true rfl⟩ (Nat.le_of_ble_eq_true rfl) dX0_bring_17 ⟨Nat.zero_le _, Nat.zero_le _⟩ rfl (fun H locs hI => ?_)
  refine xs_col (j := 0) cx hI (vp0 (by decide) (by decide)) rfl hk dX0_bring_20 (fun H locs hI => ?_)
  refine lv_iinc (v := 1) (lv' := [(2, .int 1), (0, .ref (ad 0)), (1, .int key)]) cx.1 cx.2.1 dX0_bring_21 hl (k := 0) rfl (by decide) (by decide) rfl (fun ls hl => ?_)
  refine lv_goto (tgt := 2) cx.1 cx.2.1 dX0_bring_24 (by decide) ?_
  refine lv_iload_n cx.1 cx.2.1 dX0_bring_2 rfl (lv_at hl 0 rfl) ?_
  refine lv_iconst (v := 3) cx.1 cx.2.1 dX0_bring_3 (by decide) ?_
  refine lv_icmp_ge (tgt := 27) cx.1 cx.2.1 dX0_bring_4 (by decide) (fun h9 => absurd h9 (by decide)) (fun _ => ?_)
  refine lv_aload_n cx.1 cx.2.1 dX0_bring_7 rfl (lv_at hl 1 rfl) ?_
  refine xg_2 cx hI dX0_bring_8 ?_
  refine lv_iload_n cx.1 cx.2.1 dX0_bring_11 rfl (lv_at hl 0 rfl) ?_
  refine xa_cols cx hI (vp1 (by decide) (by decide)) dX0_bring_12 ?_
  refine lv_iload_n cx.1 cx.2.1 dX0_bring_13 rfl (lv_at hl 2 rfl) ?_
  refine lv_aload_n cx.1 cx.2.1 dX0_bring_14 rfl (lv_at hl 1 rfl) ?_
  refine lv_iload_n cx.1 cx.2.1 dX0_bring_15 rfl (lv_at hl 2 rfl) ?_
  refine lv_iload_n cx.1 cx.2.1 dX0_bring_16 rfl (lv_at hl 0 rfl) ?_
  refine xc_i 2 cx (hl.1.trans hml.symm) (kX0_broughtColumn l D ca ad (xUC v 0 (upd (xC v 0) key.toNatClampNeg (xBro v key 0))) key 1 hk) hI wk_108 wk_105 wk_107 wq_4 ⟨rfl, by decide +kernel⟩ rfl ⟨rfl, rfl⟩ ⟨Nat.le_of_ble_eq_true rfl, Nat.le_of_ble_eq_true rfl⟩ (Nat.le_of_ble_eq_true rfl) dX0_bring_17 ⟨Nat.zero_le _, Nat.zero_le _⟩ rfl (fun H locs hI => ?_)
  refine xs_col (j := 1) cx hI (vp1 (by decide) (by decide)) rfl hk dX0_bring_20 (fun H locs hI => ?_)
  refine lv_iinc (v := 2) (lv' := [(2, .int 2), (0, .ref (ad 0)), (1, .int key)]) cx.1 cx.2.1 dX0_bring_21 hl (k := 0) rfl (by decide) (by decide) rfl (fun ls hl => ?_)
  refine lv_goto (tgt := 2) cx.1 cx.2.1 dX0_bring_24 (by decide) ?_
  refine lv_iload_n cx.1 cx.2.1 dX0_bring_2 rfl (lv_at hl 0 rfl) ?_
  refine lv_iconst (v := 3) cx.1 cx.2.1 dX0_bring_3 (by decide) ?_
  refine lv_icmp_ge (tgt := 27) cx.1 cx.2.1 dX0_bring_4 (by decide) (fun h9 => absurd h9 (by decide)) (fun _ => ?_)
  refine lv_aload_n cx.1 cx.2.1 dX0_bring_7 rfl (lv_at hl 1 rfl) ?_
  refine xg_2 cx hI dX0_bring_8 ?_
  refine lv_iload_n cx.1 cx.2.1 dX0_bring_11 rfl (lv_at hl 0 rfl) ?_
  refine xa_cols cx hI (vp2 (by decide) (by decide)) dX0_bring_12 ?_
  refine lv_iload_n cx.1 cx.2.1 dX0_bring_13 rfl (lv_at hl 2 rfl) ?_
  refine lv_aload_n cx.1 cx.2.1 dX0_bring_14 rfl (lv_at hl 1 rfl) ?_
  refine lv_iload_n cx.1 cx.2.1 dX0_bring_15 rfl (lv_at hl 2 rfl) ?_
  refine lv_iload_n cx.1 cx.2.1 dX0_bring_16 rfl (lv_at hl 0 rfl) ?_
  refine xc_i 2 cx (hl.1.trans hml.symm) (kX0_broughtColumn l D ca ad (xUC (xUC v 0 (upd (xC v 0) key.toNatClampNeg (xBro v key 0))) 1 (upd (xC (xUC v 0 (upd (xC v 0) key.toNatClampNeg (xBro v key 0))) 1) key.toNatClampNeg (xBro (xUC v 0 (upd (xC v 0) key.toNatClampNeg (xBro v key 0))) key 1))) key 2 hk) hI wk_108 wk_105 wk_107 wq_4 ⟨rfl, by decide +kernel⟩ rfl ⟨rfl, rfl⟩ ⟨Nat.le_of_ble_eq_true rfl, Nat.le_of_ble_eq_true rfl⟩ (Nat.le_of_ble_eq_true rfl) dX0_bring_17 ⟨Nat.zero_le _, Nat.zero_le _⟩ rfl (fun H locs hI => ?_)
  refine xs_col (j := 2) cx hI (vp2 (by decide) (by decide)) rfl hk dX0_bring_20 (fun H locs hI => ?_)
  refine lv_iinc (v := 3) (lv' := [(2, .int 3), (0, .ref (ad 0)), (1, .int key)]) cx.1 cx.2.1 dX0_bring_21 hl (k := 0) rfl (by decide) (by decide) rfl (fun ls hl => ?_)
  refine lv_goto (tgt := 2) cx.1 cx.2.1 dX0_bring_24 (by decide) ?_
  refine lv_iload_n cx.1 cx.2.1 dX0_bring_2 rfl (lv_at hl 0 rfl) ?_
  refine lv_iconst (v := 3) cx.1 cx.2.1 dX0_bring_3 (by decide) ?_
  refine lv_icmp_ge (tgt := 27) cx.1 cx.2.1 dX0_bring_4 (by decide) (fun _ => ?_) (fun h9 => absurd (by decide : (3 : Int32) ≤ 3) h9)
  have hI : KI D A (xw ad ca (xBr3 v key)) s.heap _ _ := hI
  refine lv_aload_n cx.1 cx.2.1 dX0_bring_27 rfl (lv_at hl 1 rfl) ?_
  refine xg_3 cx hI dX0_bring_28 ?_
  refine lv_iload_n cx.1 cx.2.1 dX0_bring_31 rfl (lv_at hl 2 rfl) ?_
  refine lv_aload_n cx.1 cx.2.1 dX0_bring_32 rfl (lv_at hl 1 rfl) ?_
  refine lv_iload_n cx.1 cx.2.1 dX0_bring_33 rfl (lv_at hl 2 rfl) ?_
  refine xc_i 1 cx (hl.1.trans hml.symm) (kX0_isInOld l D ca ad (xBr3 v key) key hk) hI wk_76 wk_73 wk_75 wq_1 ⟨rfl, by decide +kernel⟩ rfl ⟨rfl, rfl⟩ ⟨Nat.le_of_ble_eq_true rfl, Nat.le_of_ble_eq_true rfl⟩ (Nat.le_of_ble_eq_true rfl) dX0_bring_34 ⟨Nat.zero_le _, Nat.zero_le _⟩ rfl (fun H locs hI => ?_)
  refine kb_eq (tgt := 57) cx dX0_bring_37 (by decide) (fun c_5 => ?_) (fun c_5 => ?_)
  · refine lv_iconst (v := 0) cx.1 cx.2.1 dX0_bring_57 (by decide) ?_
    refine xs_R cx hI hk dX0_bring_58 (fun H locs hI => ?_)
    exact ke_v cx hr hlk hI (Nat.zero_le _) (Nat.zero_le _) dX0_bring_59 rfl (congrArg (xw ad ca) (by simp [xBring, b2i, c_5]))
  · refine lv_aload_n cx.1 cx.2.1 dX0_bring_40 rfl (lv_at hl 1 rfl) ?_
    refine lv_aload_n cx.1 cx.2.1 dX0_bring_41 rfl (lv_at hl 1 rfl) ?_
    refine xg_1 cx hI dX0_bring_42 ?_
    refine lv_iload_n cx.1 cx.2.1 dX0_bring_45 rfl (lv_at hl 2 rfl) ?_
    refine xa_B cx hI hk dX0_bring_46 ?_
    refine xc_i 1 cx (hl.1.trans hml.symm) (kX0_fits l D ca ad (xBr3 v key) (xB (xBr3 v key) key.toNatClampNeg)) hI wk_112 wk_109 wk_111 wq_5 ⟨rfl, by decide +kernel⟩ rfl ⟨rfl, rfl⟩ ⟨Nat.le_of_ble_eq_true rfl, Nat.le_of_ble_eq_true rfl⟩ (Nat.le_of_ble_eq_true rfl) dX0_bring_47 ⟨Nat.zero_le _, Nat.zero_le _⟩ rfl (fun H locs hI => ?_)
    refine kb_ne (tgt := 57) cx dX0_bring_50 (by decide) (fun c_6 => ?_) (fun c_6 => ?_)
    · refine lv_iconst (v := 0) cx.1 cx.2.1 dX0_bring_57 (by decide) ?_
      refine xs_R cx hI hk dX0_bring_58 (fun H locs hI => ?_)
      exact ke_v cx hr hlk hI (Nat.zero_le _) (Nat.zero_le _) dX0_bring_59 rfl (congrArg (xw ad ca) (by simp [xBring, b2i, c_5, c_6]))
    · refine lv_iconst (v := 1) cx.1 cx.2.1 dX0_bring_53 (by decide) ?_
      refine lv_goto (tgt := 58) cx.1 cx.2.1 dX0_bring_54 (by decide) ?_
      refine xs_R cx hI hk dX0_bring_58 (fun H locs hI => ?_)
      exact ke_v cx hr hlk hI (Nat.zero_le _) (Nat.zero_le _) dX0_bring_59 rfl (congrArg (xw ad ca) (by simp [xBring, b2i, c_5, c_6]))
set_option maxHeartbeats 4000000 in
set_option maxRecDepth 100000 in
theorem kX0_isBehind (l : Launch) (D : va_G) (ca : Nat → ClassId) (ad : Nat → Nat) (v : XS) (key : Int32) (hk : vp_in key 40) : CM l yX0_isBehind cX0_isBehind 3 (some .boolean) (KR 4 86) D ca (xw ad ca v) [.ref (ad 0), .int key] (some (.int (b2i (xBeh v key)))) (xw ad ca v) := by
  refine CM.of (by decide) (Nat.le_of_ble_eq_true rfl) ?_
  intro p e s m below meth c A ls cx hml hr hlk hI hl
  have hl : lv_has ls 3 [(0, .ref (ad 0)), (1, .int key)] := hl
  refine lv_iconst (v := 0) cx.1 cx.2.1 dX0_isBehind_0 (by decide) ?_
  refine lv_istore_n (lv' := [(2, .int 0), (0, .ref (ad 0)), (1, .int key)]) cx.1 cx.2.1 dX0_isBehind_1 rfl hl (by decide) rfl (fun ls hl => ?_)
  refine lv_iload_n cx.1 cx.2.1 dX0_isBehind_2 rfl (lv_at hl 0 rfl) ?_
  refine lv_iconst (v := 3) cx.1 cx.2.1 dX0_isBehind_3 (by decide) ?_
  refine lv_icmp_ge (tgt := 32) cx.1 cx.2.1 dX0_isBehind_4 (by decide) (fun h9 => absurd h9 (by decide)) (fun _ => ?_)
  refine lv_aload_n cx.1 cx.2.1 dX0_isBehind_7 rfl (lv_at hl 1 rfl) ?_
  refine xg_2 cx hI dX0_isBehind_8 ?_
  refine lv_iload_n cx.1 cx.2.1 dX0_isBehind_11 rfl (lv_at hl 0 rfl) ?_
  refine xa_cols cx hI (vp0 (by decide) (by decide)) dX0_isBehind_12 ?_
  refine lv_iload_n cx.1 cx.2.1 dX0_isBehind_13 rfl (lv_at hl 2 rfl) ?_
  refine xa_col (j := 0) cx hI (vp0 (by decide) (by decide)) rfl hk dX0_isBehind_14 ?_
  refine lv_aload_n cx.1 cx.2.1 dX0_isBehind_15 rfl (lv_at hl 1 rfl) ?_
  refine lv_iload_n cx.1 cx.2.1 dX0_isBehind_16 rfl (lv_at hl 2 rfl) ?_
  refine lv_iload_n cx.1 cx.2.1 dX0_isBehind_17 rfl (lv_at hl 0 rfl) ?_
  refine xc_i 2 cx (hl.1.trans hml.symm) (kX0_broughtColumn l D ca ad v key 0 hk) hI wk_108 wk_105 wk_107 wq_4 ⟨rfl, by decide +kernel⟩ rfl ⟨rfl, rfl⟩ ⟨Nat.le_of_ble_eq_true rfl, Nat.le_of_ble_eq_true rfl⟩ (Nat.le_of_ble_eq_true rfl) dX0_isBehind_18 ⟨Nat.zero_le _, Nat.zero_le _⟩ rfl (fun H locs hI => ?_)
  refine lv_icmp_eq (tgt := 26) cx.1 cx.2.1 dX0_isBehind_21 (by decide) (fun c_2 => ?_) (fun c_2 => ?_)
  · refine lv_iinc (v := 1) (lv' := [(2, .int 1), (0, .ref (ad 0)), (1, .int key)]) cx.1 cx.2.1 dX0_isBehind_26 hl (k := 0) rfl (by decide) (by decide) rfl (fun ls hl => ?_)
    refine lv_goto (tgt := 2) cx.1 cx.2.1 dX0_isBehind_29 (by decide) ?_
    refine lv_iload_n cx.1 cx.2.1 dX0_isBehind_2 rfl (lv_at hl 0 rfl) ?_
    refine lv_iconst (v := 3) cx.1 cx.2.1 dX0_isBehind_3 (by decide) ?_
    refine lv_icmp_ge (tgt := 32) cx.1 cx.2.1 dX0_isBehind_4 (by decide) (fun h9 => absurd h9 (by decide)) (fun _ => ?_)
    refine lv_aload_n cx.1 cx.2.1 dX0_isBehind_7 rfl (lv_at hl 1 rfl) ?_
    refine xg_2 cx hI dX0_isBehind_8 ?_
    refine lv_iload_n cx.1 cx.2.1 dX0_isBehind_11 rfl (lv_at hl 0 rfl) ?_
    refine xa_cols cx hI (vp1 (by decide) (by decide)) dX0_isBehind_12 ?_
    refine lv_iload_n cx.1 cx.2.1 dX0_isBehind_13 rfl (lv_at hl 2 rfl) ?_
    refine xa_col (j := 1) cx hI (vp1 (by decide) (by decide)) rfl hk dX0_isBehind_14 ?_
    refine lv_aload_n cx.1 cx.2.1 dX0_isBehind_15 rfl (lv_at hl 1 rfl) ?_
    refine lv_iload_n cx.1 cx.2.1 dX0_isBehind_16 rfl (lv_at hl 2 rfl) ?_
    refine lv_iload_n cx.1 cx.2.1 dX0_isBehind_17 rfl (lv_at hl 0 rfl) ?_
    refine xc_i 2 cx (hl.1.trans hml.symm) (kX0_broughtColumn l D ca ad v key 1 hk) hI wk_108 wk_105 wk_107 wq_4 ⟨rfl, by decide +kernel⟩ rfl ⟨rfl, rfl⟩ ⟨Nat.le_of_ble_eq_true rfl, Nat.le_of_ble_eq_true rfl⟩ (Nat.le_of_ble_eq_true rfl) dX0_isBehind_18 ⟨Nat.zero_le _, Nat.zero_le _⟩ rfl (fun H locs hI => ?_)
    refine lv_icmp_eq (tgt := 26) cx.1 cx.2.1 dX0_isBehind_21 (by decide) (fun c_4 => ?_) (fun c_4 => ?_)
    · refine lv_iinc (v := 2) (lv' := [(2, .int 2), (0, .ref (ad 0)), (1, .int key)]) cx.1 cx.2.1 dX0_isBehind_26 hl (k := 0) rfl (by decide) (by decide) rfl (fun ls hl => ?_)
      refine lv_goto (tgt := 2) cx.1 cx.2.1 dX0_isBehind_29 (by decide) ?_
      refine lv_iload_n cx.1 cx.2.1 dX0_isBehind_2 rfl (lv_at hl 0 rfl) ?_
      refine lv_iconst (v := 3) cx.1 cx.2.1 dX0_isBehind_3 (by decide) ?_
      refine lv_icmp_ge (tgt := 32) cx.1 cx.2.1 dX0_isBehind_4 (by decide) (fun h9 => absurd h9 (by decide)) (fun _ => ?_)
      refine lv_aload_n cx.1 cx.2.1 dX0_isBehind_7 rfl (lv_at hl 1 rfl) ?_
      refine xg_2 cx hI dX0_isBehind_8 ?_
      refine lv_iload_n cx.1 cx.2.1 dX0_isBehind_11 rfl (lv_at hl 0 rfl) ?_
      refine xa_cols cx hI (vp2 (by decide) (by decide)) dX0_isBehind_12 ?_
      refine lv_iload_n cx.1 cx.2.1 dX0_isBehind_13 rfl (lv_at hl 2 rfl) ?_
      refine xa_col (j := 2) cx hI (vp2 (by decide) (by decide)) rfl hk dX0_isBehind_14 ?_
      refine lv_aload_n cx.1 cx.2.1 dX0_isBehind_15 rfl (lv_at hl 1 rfl) ?_
      refine lv_iload_n cx.1 cx.2.1 dX0_isBehind_16 rfl (lv_at hl 2 rfl) ?_
      refine lv_iload_n cx.1 cx.2.1 dX0_isBehind_17 rfl (lv_at hl 0 rfl) ?_
      refine xc_i 2 cx (hl.1.trans hml.symm) (kX0_broughtColumn l D ca ad v key 2 hk) hI wk_108 wk_105 wk_107 wq_4 ⟨rfl, by decide +kernel⟩ rfl ⟨rfl, rfl⟩ ⟨Nat.le_of_ble_eq_true rfl, Nat.le_of_ble_eq_true rfl⟩ (Nat.le_of_ble_eq_true rfl) dX0_isBehind_18 ⟨Nat.zero_le _, Nat.zero_le _⟩ rfl (fun H locs hI => ?_)
      refine lv_icmp_eq (tgt := 26) cx.1 cx.2.1 dX0_isBehind_21 (by decide) (fun c_6 => ?_) (fun c_6 => ?_)
      · refine lv_iinc (v := 3) (lv' := [(2, .int 3), (0, .ref (ad 0)), (1, .int key)]) cx.1 cx.2.1 dX0_isBehind_26 hl (k := 0) rfl (by decide) (by decide) rfl (fun ls hl => ?_)
        refine lv_goto (tgt := 2) cx.1 cx.2.1 dX0_isBehind_29 (by decide) ?_
        refine lv_iload_n cx.1 cx.2.1 dX0_isBehind_2 rfl (lv_at hl 0 rfl) ?_
        refine lv_iconst (v := 3) cx.1 cx.2.1 dX0_isBehind_3 (by decide) ?_
        refine lv_icmp_ge (tgt := 32) cx.1 cx.2.1 dX0_isBehind_4 (by decide) (fun _ => ?_) (fun h9 => absurd (by decide : (3 : Int32) ≤ 3) h9)
        refine lv_iconst (v := 0) cx.1 cx.2.1 dX0_isBehind_32 (by decide) ?_
        exact ke_z cx hr hlk hI (Nat.zero_le _) (Nat.zero_le _) dX0_isBehind_33 rfl (congrArg (fun z => some (Value.int z)) (by simp [xBeh, b2i, c_2, c_4, c_6])) rfl
      · refine lv_iconst (v := 1) cx.1 cx.2.1 dX0_isBehind_24 (by decide) ?_
        exact ke_z cx hr hlk hI (Nat.zero_le _) (Nat.zero_le _) dX0_isBehind_25 rfl (congrArg (fun z => some (Value.int z)) (by simp [xBeh, b2i, c_2, c_4, c_6])) rfl
    · refine lv_iconst (v := 1) cx.1 cx.2.1 dX0_isBehind_24 (by decide) ?_
      exact ke_z cx hr hlk hI (Nat.zero_le _) (Nat.zero_le _) dX0_isBehind_25 rfl (congrArg (fun z => some (Value.int z)) (by simp [xBeh, b2i, c_2, c_4])) rfl
  · refine lv_iconst (v := 1) cx.1 cx.2.1 dX0_isBehind_24 (by decide) ?_
    exact ke_z cx hr hlk hI (Nat.zero_le _) (Nat.zero_le _) dX0_isBehind_25 rfl (congrArg (fun z => some (Value.int z)) (by simp [xBeh, b2i, c_2])) rfl
set_option maxHeartbeats 4000000 in
set_option maxRecDepth 100000 in
theorem kX0_followWrite (l : Launch) (D : va_G) (ca : Nat → ClassId) (ad : Nat → Nat) (v : XS) (key : Int32) (hk : vp_in key 40) (h0 : ¬ xc v < 0) : CM l yX0_followWrite cX0_followWrite 2 none (KR 5 108) D ca (xw ad ca v) [.ref (ad 0), .int key] none (xw ad ca (xFollow v key)) := by
  refine CM.of (by decide) (Nat.le_of_ble_eq_true rfl) ?_
  intro p e s m below meth c A ls cx hml hr hlk hI hl
  have hl : lv_has ls 2 [(0, .ref (ad 0)), (1, .int key)] := hl
  refine lv_aload_n cx.1 cx.2.1 dX0_followWrite_0 rfl (lv_at hl 0 rfl) ?_
  refine xg_6 cx hI dX0_followWrite_1 ?_
  refine lv_iconst (v := 1) cx.1 cx.2.1 dX0_followWrite_4 (by decide) ?_
  refine lv_icmp_ne (tgt := 16) cx.1 cx.2.1 dX0_followWrite_5 (by decide) (fun c_1 => ?_) (fun c_1 => ?_)
  · refine lv_aload_n cx.1 cx.2.1 dX0_followWrite_16 rfl (lv_at hl 0 rfl) ?_
    refine xg_6 cx hI dX0_followWrite_17 ?_
    refine lv_iconst (v := 2) cx.1 cx.2.1 dX0_followWrite_20 (by decide) ?_
    refine lv_icmp_ne (tgt := 29) cx.1 cx.2.1 dX0_followWrite_21 (by decide) (fun c_2 => ?_) (fun c_2 => ?_)
    · exact ke_v cx hr hlk hI (Nat.zero_le _) (Nat.zero_le _) dX0_followWrite_29 rfl (congrArg (xw ad ca) (by simp [xFollow, c_1, c_2]))
    · refine lv_aload_n cx.1 cx.2.1 dX0_followWrite_24 rfl (lv_at hl 0 rfl) ?_
      refine lv_iload_n cx.1 cx.2.1 dX0_followWrite_25 rfl (lv_at hl 1 rfl) ?_
      refine xc_v 1 cx (hl.1.trans hml.symm) (kX0_bring l D ca ad v key hk) hI wk_264 wk_261 wk_263 wq_14 ⟨rfl, by decide +kernel⟩ rfl ⟨rfl, rfl⟩ ⟨Nat.le_of_ble_eq_true rfl, Nat.le_of_ble_eq_true rfl⟩ (Nat.le_of_ble_eq_true rfl) dX0_followWrite_26 ⟨Nat.zero_le _, Nat.zero_le _⟩ rfl (fun H locs hI => ?_)
      exact ke_v cx hr hlk hI (Nat.zero_le _) (Nat.zero_le _) dX0_followWrite_29 rfl (congrArg (xw ad ca) (by simp [xFollow, c_1, c_2]))
  · refine lv_aload_n cx.1 cx.2.1 dX0_followWrite_8 rfl (lv_at hl 0 rfl) ?_
    refine lv_iload_n cx.1 cx.2.1 dX0_followWrite_9 rfl (lv_at hl 1 rfl) ?_
    refine xc_v 1 cx (hl.1.trans hml.symm) (kX0_noteKey l D ca ad v key h0) hI wk_260 wk_257 wk_259 wq_13 ⟨rfl, by decide +kernel⟩ rfl ⟨rfl, rfl⟩ ⟨Nat.le_of_ble_eq_true rfl, Nat.le_of_ble_eq_true rfl⟩ (Nat.le_of_ble_eq_true rfl) dX0_followWrite_10 ⟨Nat.zero_le _, Nat.zero_le _⟩ rfl (fun H locs hI => ?_)
    refine lv_goto (tgt := 29) cx.1 cx.2.1 dX0_followWrite_13 (by decide) ?_
    exact ke_v cx hr hlk hI (Nat.zero_le _) (Nat.zero_le _) dX0_followWrite_29 rfl (congrArg (xw ad ca) (by simp [xFollow, c_1]))
set_option maxHeartbeats 4000000 in
set_option maxRecDepth 100000 in
theorem kX0_rows (l : Launch) (D : va_G) (ca : Nat → ClassId) (ad : Nat → Nat) (v : XS) : CM l yX0_rows cX0_rows 3 (some .int) (KR 2 42) D ca (xw ad ca v) [.ref (ad 0)] (some (.int (xRows v 40))) (xw ad ca v) := by
  refine CM.of (by decide) (Nat.le_of_ble_eq_true rfl) ?_
  intro p e s m below meth c A ls cx hml hr hlk hI hl
  have hl : lv_has ls 3 [(0, .ref (ad 0))] := hl
  refine lv_iconst (v := 0) cx.1 cx.2.1 dX0_rows_0 (by decide) ?_
  refine lv_istore_n (lv' := [(1, .int 0), (0, .ref (ad 0))]) cx.1 cx.2.1 dX0_rows_1 rfl hl (by decide) rfl (fun ls hl => ?_)
  refine lv_iconst (v := 0) cx.1 cx.2.1 dX0_rows_2 (by decide) ?_
  refine lv_istore_n (lv' := [(2, .int 0), (1, .int 0), (0, .ref (ad 0))]) cx.1 cx.2.1 dX0_rows_3 rfl hl (by decide) rfl (fun ls hl => ?_)
  refine k_loop 40 (fun i => (xw ad ca v)) (fun i => [(2, .int (nI i)), (1, .int (xRows v i)), (0, .ref (ad 0))]) hI (lv_sub hl [0, 1, 2] rfl) (fun H locs ls hI hl => ?_) (fun i hi H locs ls hI hl ih => ?_)
  · have hI : KI D A (xw ad ca v) s.heap H locs := hI
    have hl : lv_has ls 3 [(2, .int (nI 40)), (1, .int (xRows v 40)), (0, .ref (ad 0))] := hl
    refine lv_iload_n cx.1 cx.2.1 dX0_rows_4 rfl (lv_at hl 0 rfl) ?_
    refine lv_bipush (v := 40) cx.1 cx.2.1 dX0_rows_5 (by decide) ?_
    refine lv_icmp_ge (tgt := 27) cx.1 cx.2.1 dX0_rows_7 (by decide) (fun _ => ?_) (fun h9 => absurd (by decide : (40 : Int32) ≤ nI 40) h9)
    refine lv_iload_n cx.1 cx.2.1 dX0_rows_27 rfl (lv_at hl 1 rfl) ?_
    exact ke_i cx hr hlk hI (Nat.zero_le _) (Nat.zero_le _) dX0_rows_28 rfl rfl
  · have hI : KI D A (xw ad ca v) s.heap H locs := hI
    have hl : lv_has ls 3 [(2, .int (nI i)), (1, .int (xRows v i)), (0, .ref (ad 0))] := hl
    refine lv_iload_n cx.1 cx.2.1 dX0_rows_4 rfl (lv_at hl 0 rfl) ?_
    refine lv_bipush (v := 40) cx.1 cx.2.1 dX0_rows_5 (by decide) ?_
    refine lv_icmp_ge (tgt := 27) cx.1 cx.2.1 dX0_rows_7 (by decide) (fun h9 => absurd h9 (nI_ge hi (by decide))) (fun _ => ?_)
    refine lv_aload_n cx.1 cx.2.1 dX0_rows_10 rfl (lv_at hl 2 rfl) ?_
    refine lv_iload_n cx.1 cx.2.1 dX0_rows_11 rfl (lv_at hl 0 rfl) ?_
    refine xc_i 1 cx (hl.1.trans hml.symm) (kX0_isSeen l D ca ad v (nI i) (vp_in_nI hi (by decide))) hI wk_72 wk_69 wk_71 wq_0 ⟨rfl, by decide +kernel⟩ rfl ⟨rfl, rfl⟩ ⟨Nat.le_of_ble_eq_true rfl, Nat.le_of_ble_eq_true rfl⟩ (Nat.le_of_ble_eq_true rfl) dX0_rows_12 ⟨Nat.zero_le _, Nat.zero_le _⟩ rfl (fun H locs hI => ?_)
    refine kb_eq (tgt := 21) cx dX0_rows_15 (by decide) (fun c_3 => ?_) (fun c_3 => ?_)
    · refine lv_iinc (v := nI (i + 1)) (lv' := [(2, .int (nI (i + 1))), (1, .int (xRows v i)), (0, .ref (ad 0))]) cx.1 cx.2.1 dX0_rows_21 hl (k := 0) rfl (nI_1 i) (by decide) rfl (fun ls hl => ?_)
      refine lv_goto (tgt := 4) cx.1 cx.2.1 dX0_rows_24 (by decide) ?_
      refine ih _ _ _ ?_ ?_
      · show KI D A (xw ad ca v) s.heap _ _
        exact hI
      · show lv_has _ _ [(2, .int (nI (i + 1))), (1, .int (xRows v (i + 1))), (0, .ref (ad 0))]
        rw [show xRows v (i + 1) = xRows v i from (by simp [c_3, xRows_t, xRows_f])]
        exact lv_sub hl [0, 1, 2] rfl
    · refine lv_iinc (v := xRows v i + 1) (lv' := [(1, .int (xRows v i + 1)), (2, .int (nI i)), (0, .ref (ad 0))]) cx.1 cx.2.1 dX0_rows_18 hl (k := 1) rfl rfl (by decide) rfl (fun ls hl => ?_)
      refine lv_iinc (v := nI (i + 1)) (lv' := [(2, .int (nI (i + 1))), (1, .int (xRows v i + 1)), (0, .ref (ad 0))]) cx.1 cx.2.1 dX0_rows_21 hl (k := 1) rfl (nI_1 i) (by decide) rfl (fun ls hl => ?_)
      refine lv_goto (tgt := 4) cx.1 cx.2.1 dX0_rows_24 (by decide) ?_
      refine ih _ _ _ ?_ ?_
      · show KI D A (xw ad ca v) s.heap _ _
        exact hI
      · show lv_has _ _ [(2, .int (nI (i + 1))), (1, .int (xRows v (i + 1))), (0, .ref (ad 0))]
        rw [show xRows v (i + 1) = xRows v i + 1 from (by simp [c_3, xRows_t, xRows_f])]
        exact lv_sub hl [0, 1, 2] rfl
set_option maxHeartbeats 4000000 in
set_option maxRecDepth 100000 in
theorem kX0_shadowRows (l : Launch) (D : va_G) (ca : Nat → ClassId) (ad : Nat → Nat) (v : XS) : CM l yX0_shadowRows cX0_shadowRows 3 (some .int) (KR 1 21) D ca (xw ad ca v) [.ref (ad 0)] (some (.int (xShRows v 40))) (xw ad ca v) := by
  refine CM.of (by decide) (Nat.le_of_ble_eq_true rfl) ?_
  intro p e s m below meth c A ls cx hml hr hlk hI hl
  have hl : lv_has ls 3 [(0, .ref (ad 0))] := hl
  refine lv_iconst (v := 0) cx.1 cx.2.1 dX0_shadowRows_0 (by decide) ?_
  refine lv_istore_n (lv' := [(1, .int 0), (0, .ref (ad 0))]) cx.1 cx.2.1 dX0_shadowRows_1 rfl hl (by decide) rfl (fun ls hl => ?_)
  refine lv_iconst (v := 0) cx.1 cx.2.1 dX0_shadowRows_2 (by decide) ?_
  refine lv_istore_n (lv' := [(2, .int 0), (1, .int 0), (0, .ref (ad 0))]) cx.1 cx.2.1 dX0_shadowRows_3 rfl hl (by decide) rfl (fun ls hl => ?_)
  refine k_loop 40 (fun i => (xw ad ca v)) (fun i => [(2, .int (nI i)), (1, .int (xShRows v i)), (0, .ref (ad 0))]) hI (lv_sub hl [0, 1, 2] rfl) (fun H locs ls hI hl => ?_) (fun i hi H locs ls hI hl ih => ?_)
  · have hI : KI D A (xw ad ca v) s.heap H locs := hI
    have hl : lv_has ls 3 [(2, .int (nI 40)), (1, .int (xShRows v 40)), (0, .ref (ad 0))] := hl
    refine lv_iload_n cx.1 cx.2.1 dX0_shadowRows_4 rfl (lv_at hl 0 rfl) ?_
    refine lv_bipush (v := 40) cx.1 cx.2.1 dX0_shadowRows_5 (by decide) ?_
    refine lv_icmp_ge (tgt := 27) cx.1 cx.2.1 dX0_shadowRows_7 (by decide) (fun _ => ?_) (fun h9 => absurd (by decide : (40 : Int32) ≤ nI 40) h9)
    refine lv_iload_n cx.1 cx.2.1 dX0_shadowRows_27 rfl (lv_at hl 1 rfl) ?_
    exact ke_i cx hr hlk hI (Nat.zero_le _) (Nat.zero_le _) dX0_shadowRows_28 rfl rfl
  · have hI : KI D A (xw ad ca v) s.heap H locs := hI
    have hl : lv_has ls 3 [(2, .int (nI i)), (1, .int (xShRows v i)), (0, .ref (ad 0))] := hl
    refine lv_iload_n cx.1 cx.2.1 dX0_shadowRows_4 rfl (lv_at hl 0 rfl) ?_
    refine lv_bipush (v := 40) cx.1 cx.2.1 dX0_shadowRows_5 (by decide) ?_
    refine lv_icmp_ge (tgt := 27) cx.1 cx.2.1 dX0_shadowRows_7 (by decide) (fun h9 => absurd h9 (nI_ge hi (by decide))) (fun _ => ?_)
    refine lv_aload_n cx.1 cx.2.1 dX0_shadowRows_10 rfl (lv_at hl 2 rfl) ?_
    refine lv_iload_n cx.1 cx.2.1 dX0_shadowRows_11 rfl (lv_at hl 0 rfl) ?_
    refine xc_i 1 cx (hl.1.trans hml.symm) (kX0_isInShadow l D ca ad v (nI i) (vp_in_nI hi (by decide))) hI wk_80 wk_77 wk_79 wq_2 ⟨rfl, by decide +kernel⟩ rfl ⟨rfl, rfl⟩ ⟨Nat.le_of_ble_eq_true rfl, Nat.le_of_ble_eq_true rfl⟩ (Nat.le_of_ble_eq_true rfl) dX0_shadowRows_12 ⟨Nat.zero_le _, Nat.zero_le _⟩ rfl (fun H locs hI => ?_)
    refine kb_eq (tgt := 21) cx dX0_shadowRows_15 (by decide) (fun c_3 => ?_) (fun c_3 => ?_)
    · refine lv_iinc (v := nI (i + 1)) (lv' := [(2, .int (nI (i + 1))), (1, .int (xShRows v i)), (0, .ref (ad 0))]) cx.1 cx.2.1 dX0_shadowRows_21 hl (k := 0) rfl (nI_1 i) (by decide) rfl (fun ls hl => ?_)
      refine lv_goto (tgt := 4) cx.1 cx.2.1 dX0_shadowRows_24 (by decide) ?_
      refine ih _ _ _ ?_ ?_
      · show KI D A (xw ad ca v) s.heap _ _
        exact hI
      · show lv_has _ _ [(2, .int (nI (i + 1))), (1, .int (xShRows v (i + 1))), (0, .ref (ad 0))]
        rw [show xShRows v (i + 1) = xShRows v i from (by simp [c_3, xShRows_t, xShRows_f])]
        exact lv_sub hl [0, 1, 2] rfl
    · refine lv_iinc (v := xShRows v i + 1) (lv' := [(1, .int (xShRows v i + 1)), (2, .int (nI i)), (0, .ref (ad 0))]) cx.1 cx.2.1 dX0_shadowRows_18 hl (k := 1) rfl rfl (by decide) rfl (fun ls hl => ?_)
      refine lv_iinc (v := nI (i + 1)) (lv' := [(2, .int (nI (i + 1))), (1, .int (xShRows v i + 1)), (0, .ref (ad 0))]) cx.1 cx.2.1 dX0_shadowRows_21 hl (k := 1) rfl (nI_1 i) (by decide) rfl (fun ls hl => ?_)
      refine lv_goto (tgt := 4) cx.1 cx.2.1 dX0_shadowRows_24 (by decide) ?_
      refine ih _ _ _ ?_ ?_
      · show KI D A (xw ad ca v) s.heap _ _
        exact hI
      · show lv_has _ _ [(2, .int (nI (i + 1))), (1, .int (xShRows v (i + 1))), (0, .ref (ad 0))]
        rw [show xShRows v (i + 1) = xShRows v i + 1 from (by simp [c_3, xShRows_t, xShRows_f])]
        exact lv_sub hl [0, 1, 2] rfl
set_option maxHeartbeats 4000000 in
set_option maxRecDepth 100000 in
theorem kX0_behind (l : Launch) (D : va_G) (ca : Nat → ClassId) (ad : Nat → Nat) (v : XS) : CM l yX0_behind cX0_behind 3 (some .int) (KR 5 108) D ca (xw ad ca v) [.ref (ad 0)] (some (.int (if xp v = 0 then 0 else xBehinds v 40))) (xw ad ca v) := by
  refine CM.of (by decide) (Nat.le_of_ble_eq_true rfl) ?_
  intro p e s m below meth c A ls cx hml hr hlk hI hl
  have hl : lv_has ls 3 [(0, .ref (ad 0))] := hl
  refine lv_aload_n cx.1 cx.2.1 dX0_behind_0 rfl (lv_at hl 0 rfl) ?_
  refine xg_6 cx hI dX0_behind_1 ?_
  refine lv_if_ne (tgt := 9) cx.1 cx.2.1 dX0_behind_4 (by decide) (fun c_1 => ?_) (fun c_1 => ?_)
  · refine lv_iconst (v := 0) cx.1 cx.2.1 dX0_behind_9 (by decide) ?_
    refine lv_istore_n (lv' := [(1, .int 0), (0, .ref (ad 0))]) cx.1 cx.2.1 dX0_behind_10 rfl hl (by decide) rfl (fun ls hl => ?_)
    refine lv_iconst (v := 0) cx.1 cx.2.1 dX0_behind_11 (by decide) ?_
    refine lv_istore_n (lv' := [(2, .int 0), (1, .int 0), (0, .ref (ad 0))]) cx.1 cx.2.1 dX0_behind_12 rfl hl (by decide) rfl (fun ls hl => ?_)
    refine k_loop 40 (fun i => (xw ad ca v)) (fun i => [(2, .int (nI i)), (1, .int (xBehinds v i)), (0, .ref (ad 0))]) hI (lv_sub hl [0, 1, 2] rfl) (fun H locs ls hI hl => ?_) (fun i hi H locs ls hI hl ih => ?_)
    · have hI : KI D A (xw ad ca v) s.heap H locs := hI
      have hl : lv_has ls 3 [(2, .int (nI 40)), (1, .int (xBehinds v 40)), (0, .ref (ad 0))] := hl
      refine lv_iload_n cx.1 cx.2.1 dX0_behind_13 rfl (lv_at hl 0 rfl) ?_
      refine lv_bipush (v := 40) cx.1 cx.2.1 dX0_behind_14 (by decide) ?_
      refine lv_icmp_ge (tgt := 36) cx.1 cx.2.1 dX0_behind_16 (by decide) (fun _ => ?_) (fun h9 => absurd (by decide : (40 : Int32) ≤ nI 40) h9)
      refine lv_iload_n cx.1 cx.2.1 dX0_behind_36 rfl (lv_at hl 1 rfl) ?_
      exact ke_i cx hr hlk hI (Nat.zero_le _) (Nat.zero_le _) dX0_behind_37 (congrArg (fun z => some (Value.int z)) (by simp [c_1])) rfl
    · have hI : KI D A (xw ad ca v) s.heap H locs := hI
      have hl : lv_has ls 3 [(2, .int (nI i)), (1, .int (xBehinds v i)), (0, .ref (ad 0))] := hl
      refine lv_iload_n cx.1 cx.2.1 dX0_behind_13 rfl (lv_at hl 0 rfl) ?_
      refine lv_bipush (v := 40) cx.1 cx.2.1 dX0_behind_14 (by decide) ?_
      refine lv_icmp_ge (tgt := 36) cx.1 cx.2.1 dX0_behind_16 (by decide) (fun h9 => absurd h9 (nI_ge hi (by decide))) (fun _ => ?_)
      refine lv_aload_n cx.1 cx.2.1 dX0_behind_19 rfl (lv_at hl 2 rfl) ?_
      refine lv_iload_n cx.1 cx.2.1 dX0_behind_20 rfl (lv_at hl 0 rfl) ?_
      refine xc_i 1 cx (hl.1.trans hml.symm) (kX0_isBehind l D ca ad v (nI i) (vp_in_nI hi (by decide))) hI wk_104 wk_101 wk_103 wq_3 ⟨rfl, by decide +kernel⟩ rfl ⟨rfl, rfl⟩ ⟨Nat.le_of_ble_eq_true rfl, Nat.le_of_ble_eq_true rfl⟩ (Nat.le_of_ble_eq_true rfl) dX0_behind_21 ⟨Nat.zero_le _, Nat.zero_le _⟩ rfl (fun H locs hI => ?_)
      refine kb_eq (tgt := 30) cx dX0_behind_24 (by decide) (fun c_4 => ?_) (fun c_4 => ?_)
      · refine lv_iinc (v := nI (i + 1)) (lv' := [(2, .int (nI (i + 1))), (1, .int (xBehinds v i)), (0, .ref (ad 0))]) cx.1 cx.2.1 dX0_behind_30 hl (k := 0) rfl (nI_1 i) (by decide) rfl (fun ls hl => ?_)
        refine lv_goto (tgt := 13) cx.1 cx.2.1 dX0_behind_33 (by decide) ?_
        refine ih _ _ _ ?_ ?_
        · show KI D A (xw ad ca v) s.heap _ _
          exact hI
        · show lv_has _ _ [(2, .int (nI (i + 1))), (1, .int (xBehinds v (i + 1))), (0, .ref (ad 0))]
          rw [show xBehinds v (i + 1) = xBehinds v i from (by simp [c_4, xBehinds_t, xBehinds_f])]
          exact lv_sub hl [0, 1, 2] rfl
      · refine lv_iinc (v := xBehinds v i + 1) (lv' := [(1, .int (xBehinds v i + 1)), (2, .int (nI i)), (0, .ref (ad 0))]) cx.1 cx.2.1 dX0_behind_27 hl (k := 1) rfl rfl (by decide) rfl (fun ls hl => ?_)
        refine lv_iinc (v := nI (i + 1)) (lv' := [(2, .int (nI (i + 1))), (1, .int (xBehinds v i + 1)), (0, .ref (ad 0))]) cx.1 cx.2.1 dX0_behind_30 hl (k := 1) rfl (nI_1 i) (by decide) rfl (fun ls hl => ?_)
        refine lv_goto (tgt := 13) cx.1 cx.2.1 dX0_behind_33 (by decide) ?_
        refine ih _ _ _ ?_ ?_
        · show KI D A (xw ad ca v) s.heap _ _
          exact hI
        · show lv_has _ _ [(2, .int (nI (i + 1))), (1, .int (xBehinds v (i + 1))), (0, .ref (ad 0))]
          rw [show xBehinds v (i + 1) = xBehinds v i + 1 from (by simp [c_4, xBehinds_t, xBehinds_f])]
          exact lv_sub hl [0, 1, 2] rfl
  · refine lv_iconst (v := 0) cx.1 cx.2.1 dX0_behind_7 (by decide) ?_
    exact ke_i cx hr hlk hI (Nat.zero_le _) (Nat.zero_le _) dX0_behind_8 (congrArg (fun z => some (Value.int z)) (by simp [c_1])) rfl
set_option maxHeartbeats 4000000 in
set_option maxRecDepth 100000 in
theorem kX0_phase (l : Launch) (D : va_G) (ca : Nat → ClassId) (ad : Nat → Nat) (v : XS) : CM l yX0_phase cX0_phase 1 (some .int) (KR 0 0) D ca (xw ad ca v) [.ref (ad 0)] (some (.int (xp v))) (xw ad ca v) := by
  refine CM.of (by decide) (Nat.le_of_ble_eq_true rfl) ?_
  intro p e s m below meth c A ls cx hml hr hlk hI hl
  have hl : lv_has ls 1 [(0, .ref (ad 0))] := hl
  refine lv_aload_n cx.1 cx.2.1 dX0_phase_0 rfl (lv_at hl 0 rfl) ?_
  refine xg_6 cx hI dX0_phase_1 ?_
  exact ke_i cx hr hlk hI (Nat.zero_le _) (Nat.zero_le _) dX0_phase_4 rfl rfl
set_option maxHeartbeats 4000000 in
set_option maxRecDepth 100000 in
theorem kX0_mark (l : Launch) (D : va_G) (ca : Nat → ClassId) (ad : Nat → Nat) (v : XS) : CM l yX0_mark cX0_mark 1 (some .int) (KR 0 0) D ca (xw ad ca v) [.ref (ad 0)] (some (.int (if xp v = 0 then -1 else xm v))) (xw ad ca v) := by
  refine CM.of (by decide) (Nat.le_of_ble_eq_true rfl) ?_
  intro p e s m below meth c A ls cx hml hr hlk hI hl
  have hl : lv_has ls 1 [(0, .ref (ad 0))] := hl
  refine lv_aload_n cx.1 cx.2.1 dX0_mark_0 rfl (lv_at hl 0 rfl) ?_
  refine xg_6 cx hI dX0_mark_1 ?_
  refine lv_if_ne (tgt := 11) cx.1 cx.2.1 dX0_mark_4 (by decide) (fun c_1 => ?_) (fun c_1 => ?_)
  · refine lv_aload_n cx.1 cx.2.1 dX0_mark_11 rfl (lv_at hl 0 rfl) ?_
    refine xg_7 cx hI dX0_mark_12 ?_
    exact ke_i cx hr hlk hI (Nat.zero_le _) (Nat.zero_le _) dX0_mark_15 (congrArg (fun z => some (Value.int z)) (by simp [c_1])) rfl
  · refine lv_iconst (v := (-1)) cx.1 cx.2.1 dX0_mark_7 (by decide) ?_
    refine lv_goto (tgt := 15) cx.1 cx.2.1 dX0_mark_8 (by decide) ?_
    exact ke_i cx hr hlk hI (Nat.zero_le _) (Nat.zero_le _) dX0_mark_15 (congrArg (fun z => some (Value.int z)) (by simp [c_1])) rfl
set_option maxHeartbeats 4000000 in
set_option maxRecDepth 100000 in
theorem kX0_notes (l : Launch) (D : va_G) (ca : Nat → ClassId) (ad : Nat → Nat) (v : XS) : CM l yX0_notes cX0_notes 1 (some .int) (KR 0 0) D ca (xw ad ca v) [.ref (ad 0)] (some (.int (xc v))) (xw ad ca v) := by
  refine CM.of (by decide) (Nat.le_of_ble_eq_true rfl) ?_
  intro p e s m below meth c A ls cx hml hr hlk hI hl
  have hl : lv_has ls 1 [(0, .ref (ad 0))] := hl
  refine lv_aload_n cx.1 cx.2.1 dX0_notes_0 rfl (lv_at hl 0 rfl) ?_
  refine xg_5 cx hI dX0_notes_1 ?_
  exact ke_i cx hr hlk hI (Nat.zero_le _) (Nat.zero_le _) dX0_notes_4 rfl rfl
end
section
/-! MINE: Arrays.fill, the columns filled, notes moved up. -/
theorem kFill_0 (y : Int32) (f : Nat → Int32) : kFill 0 y f = f := funext fun j => by simp [kFill]
theorem kFill_s {i : Nat} (hi : i < 2 ^ 31) (y : Int32) (f : Nat → Int32) : upd (kFill i y f) (nI i).toNatClampNeg y = kFill (i + 1) y f := by
  rw [nI_clamp hi]
  funext j
  by_cases h : j = i
  · subst h
    rw [pk_us]
    simp [kFill]
  · rw [pk_un h]
    simp only [kFill]
    by_cases h2 : j < i
    · rw [if_pos h2, if_pos (by omega)]
    · rw [if_neg h2, if_neg (by omega)]
set_option maxHeartbeats 4000000 in
set_option maxRecDepth 100000 in
theorem kJ7_fill (l : Launch) (D : va_G) (ca : Nat → ClassId) (a n : Nat) (hn : n < 2 ^ 31) (f : Nat → Int32) (y : Int32) : CM l yJ7_fill_53178 cJ7_fill_53178 4 none (KR 0 0) D ca [(a, .inl (ca 0, n, .inl f))] [.ref a, .int y] none [(a, .inl (ca 0, n, .inl (kFill n y f)))] := by
  refine CM.of (by decide) (Nat.le_of_ble_eq_true rfl) ?_
  intro p e s m below meth c A ls cx hml hr hlk hI hl
  have hl : lv_has ls 4 [(0, .ref a), (1, .int y)] := hl
  refine lv_iconst (v := 0) cx.1 cx.2.1 dJ7_fill_53178_0 (by decide) ?_
  refine lv_istore_n (lv' := [(2, .int 0), (0, .ref a), (1, .int y)]) cx.1 cx.2.1 dJ7_fill_53178_1 rfl hl (by decide) rfl (fun ls hl => ?_)
  refine lv_aload_n cx.1 cx.2.1 dJ7_fill_53178_2 rfl (lv_at hl 1 rfl) ?_
  refine va_alen cx.1 cx.2.1 cx.2.2.2.2 hI.1 0 0 rfl rfl (v := nI n) rfl dJ7_fill_53178_3 ?_
  refine lv_istore_n (lv' := [(3, .int (nI n)), (2, .int 0), (0, .ref a), (1, .int y)]) cx.1 cx.2.1 dJ7_fill_53178_4 rfl hl (by decide) rfl (fun ls hl => ?_)
  refine k_loop n (fun i => [(a, .inl (ca 0, n, .inl (kFill i y f)))]) (fun i => [(2, .int (nI i)), (3, .int (nI n)), (0, .ref a), (1, .int y)]) (by rw [kFill_0]; exact hI) (lv_sub hl [1, 0, 2, 3] rfl) (fun H locs ls hI hl => ?_) (fun i hi H locs ls hI hl ih => ?_)
  · refine lv_iload_n cx.1 cx.2.1 dJ7_fill_53178_5 rfl (lv_at hl 0 rfl) ?_
    refine lv_iload_n cx.1 cx.2.1 dJ7_fill_53178_6 rfl (lv_at hl 1 rfl) ?_
    refine lv_icmp_ge (tgt := 20) cx.1 cx.2.1 dJ7_fill_53178_7 (by decide) (fun _ => ?_) (fun h9 => absurd (Int32.le_refl _) h9)
    exact ke_v cx hr hlk hI (Nat.zero_le _) (Nat.zero_le _) dJ7_fill_53178_20 rfl rfl
  · refine lv_iload_n cx.1 cx.2.1 dJ7_fill_53178_5 rfl (lv_at hl 0 rfl) ?_
    refine lv_iload_n cx.1 cx.2.1 dJ7_fill_53178_6 rfl (lv_at hl 1 rfl) ?_
    refine lv_icmp_ge (tgt := 20) cx.1 cx.2.1 dJ7_fill_53178_7 (by decide) (fun h9 => absurd h9 (nI_ge hi hn)) (fun _ => ?_)
    refine lv_aload_n cx.1 cx.2.1 dJ7_fill_53178_10 rfl (lv_at hl 2 rfl) ?_
    refine lv_iload_n cx.1 cx.2.1 dJ7_fill_53178_11 rfl (lv_at hl 0 rfl) ?_
    refine lv_iload_n cx.1 cx.2.1 dJ7_fill_53178_12 rfl (lv_at hl 3 rfl) ?_
    refine va_iast cx.1 cx.2.1 cx.2.2.2.2 hI.1 hI.2.1 hI.2.2.1 0 0 rfl rfl (vp_in_nI hi hn) dJ7_fill_53178_13 (fun H1 locs1 hP hD hS => ?_)
    rw [kFill_s (Nat.lt_trans hi hn)] at hP hD
    have hI : KI D A [(a, .inl (ca 0, n, .inl (kFill (i + 1) y f)))] s.heap H1 locs1 := ⟨hP, hD, hS, hI.2.2.2⟩
    refine lv_iinc (v := nI (i + 1)) (lv' := [(2, .int (nI (i + 1))), (3, .int (nI n)), (0, .ref a), (1, .int y)]) cx.1 cx.2.1 dJ7_fill_53178_14 hl (k := 0) rfl (nI_1 i) (by decide) rfl (fun ls hl => ?_)
    refine lv_goto (tgt := 5) cx.1 cx.2.1 dJ7_fill_53178_17 (by decide) ?_
    exact ih _ _ _ hI hl
section KFILL
variable {p : Program} {l : Launch} {e : Env} {R : Room} {s : State} {m : MethodId} {args : Array Value} {below : List Frame} {meth : Method} {c : Code} {H : Heap} {locs : List Loc} {cells slots : Nat} {Q : State → Prop}
variable {cc : ByteArray} {pc : Nat} {ls : Array Slot} {rest : List Value} {D : va_G} {ca : Nat → ClassId} {A : Nat → Prop} {ad : Nat → Nat} {own : String} {index : Nat}
theorem k_fillAt (pre post : va_W) {W0 W1 : va_W} {a n : Nat} {f : Nat → Int32} {y : Int32} (hn : n < 2 ^ 31) (cx : KC p c cc s args m own D ca) (hls : ls.size = c.maxLocals) (hI : KI D A W0 s.heap H locs) (e0 : W0 = pre ++ ([(a, .inl (ca 0, n, .inl f))] ++ post)) (e1 : W1 = pre ++ ([(a, .inl (ca 0, n, .inl (kFill n y f)))] ++ post))
    (h1 : Cond.methodLink own index yJ7_fill_53178 ∈ WL) (hR : 1 ≤ R.frames ∧ 23 ≤ R.locals) (hW : (rest.map fun v => v.category).sum ≤ 8) (hdg : decode cc pc = .ok (.invokestatic index, 3)) (hf : cells ≤ R.cells ∧ slots ≤ R.slots)
    (kk : ∀ H1 locs1, KI D A W1 s.heap H1 locs1 → W p l e R s m args below meth c H1 locs1 cells slots Q (F0 m (pc + 3) ls rest)) : W p l e R s m args below meth c H locs cells slots Q (F0 m pc ls (.int y :: .ref a :: rest)) :=
  k_callS 2 pre post cx hls (kJ7_fill l D ca a n hn f y) hI e0 e1 rfl wk_25 h1 wk_24 wk_2 ⟨by decide, by decide, by decide +kernel⟩ rfl ⟨rfl, rfl⟩ ⟨hR.1, hR.2⟩ hW hdg hf rfl kk
theorem k_fillcol {v : XS} (cx : KC p c cc s args m own D ca) (hls : ls.size = c.maxLocals) (hI : KI D A (xw ad ca v) s.heap H locs) {c0 y : Int32} (hc : vp_in c0 3)
    (h1 : Cond.methodLink own index yJ7_fill_53178 ∈ WL) (hR : 1 ≤ R.frames ∧ 23 ≤ R.locals) (hW : (rest.map fun v => v.category).sum ≤ 8) (hdg : decode cc pc = .ok (.invokestatic index, 3)) (hf : cells ≤ R.cells ∧ slots ≤ R.slots)
    (kk : ∀ H1 locs1, KI D A (xw ad ca (xUC v c0.toNatClampNeg (kFill 40 y (xC v c0.toNatClampNeg)))) s.heap H1 locs1 → W p l e R s m args below meth c H1 locs1 cells slots Q (F0 m (pc + 3) ls rest)) : W p l e R s m args below meth c H locs cells slots Q (F0 m pc ls (.int y :: .ref (ad (4 + c0.toNatClampNeg)) :: rest)) := by
  rcases k3 hc with h | h | h <;> rw [h] at kk ⊢
  · exact k_fillAt ((xw ad ca v).take 4) ((xw ad ca v).drop 5) (by decide) cx hls hI rfl rfl h1 hR hW hdg hf kk
  · exact k_fillAt ((xw ad ca v).take 5) ((xw ad ca v).drop 6) (by decide) cx hls hI rfl rfl h1 hR hW hdg hf kk
  · exact k_fillAt ((xw ad ca v).take 6) ((xw ad ca v).drop 7) (by decide) cx hls hI rfl rfl h1 hR hW hdg hf kk
theorem k_copyN {v : XS} (cx : KC p c cc s args m own D ca) (hls : ls.size = c.maxLocals) (hI : KI D A (xw ad ca v) s.heap H locs) (h0 : Cond.methodLink own index arraycopyName ∈ WL) {sp dp n : Int32} (h1 : ¬ sp < 0) (h2 : ¬ dp < 0) (h3 : ¬ n < 0) (h4 : sp.toNatClampNeg + n.toNatClampNeg ≤ 1024) (h5 : dp.toNatClampNeg + n.toNatClampNeg ≤ 1024)
    (hframes : 1 ≤ R.frames) (hlocals : (rest.map fun v => v.category).sum + (nativeFrameWords "java/lang/System" "arraycopy" 5 + 11) ≤ R.locals) (hdg : decode cc pc = .ok (.invokestatic index, 3))
    (kk : ∀ H1 locs1, KI D A (xw ad ca (xUN v (va_cpy (xN v) (xN v) sp.toNatClampNeg dp.toNatClampNeg n.toNatClampNeg))) s.heap H1 locs1 → W p l e R s m args below meth c H1 locs1 cells slots Q (F0 m (pc + 3) ls rest)) : W p l e R s m args below meth c H locs cells slots Q (F0 m pc ls (.int n :: .int dp :: .ref (ad 8) :: .int sp :: .ref (ad 8) :: rest)) :=
  va_copyi cx.1 cx.2.1 hls.symm cx.2.2.1 (cx.2.2.2.1 _ h0) (cx.2.2.2.1 _ wk_356) (cx.2.2.2.1 _ wk_355) (cx.2.2.2.1 _ wk_12) cx.2.2.2.2 hI.1 hI.2.1 hI.2.2.1 8 8 0 0 rfl rfl rfl rfl rfl h1 h2 h3 h4 h5 (fun _ _ => rfl) hframes hlocals hdg (fun H1 locs1 hP hD hS => kk H1 locs1 ⟨hP, hD, hS, hI.2.2.2⟩)
end KFILL
def kMin (a b : Int32) : Int32 := if b < a then b else a
def kMax (a b : Int32) : Int32 := if a < b then b else a
theorem kMin_in {a b : Int32} {n : Nat} (ha : vp_in a n) (hb : vp_in b n) : vp_in (kMin a b) n := by unfold kMin; split <;> assumption
theorem kMax_in {a b : Int32} {n : Nat} (ha : vp_in a n) (hb : vp_in b n) : vp_in (kMax a b) n := by unfold kMax; split <;> assumption
theorem xFollow_c {v : XS} {k : Int32} (h0 : ¬ xc v < 0) : ¬ xc (xFollow v k) < 0 := by
  unfold xFollow
  by_cases h1 : xp v = 1
  · rw [if_pos h1]
    unfold xNote
    by_cases h2 : (1024 : Int32) ≤ xc v
    · rw [if_pos h2]; exact h0
    · rw [if_neg h2]
      show ¬ xc v + 1 < 0
      obtain ⟨j, hj, e⟩ := nI_of h0
      rw [e] at h2 ⊢
      have : j < 1024 := Nat.not_le.mp fun q => h2 (nI_le q hj)
      rw [nI_1]
      exact nI_pos (by omega)
  · rw [if_neg h1]
    by_cases h2 : xp v = 2
    · rw [if_pos h2]; exact h0
    · rw [if_neg h2]; exact h0
/-- what is thrown, by number -/
def xfInsert (v : XS) (key a b : Int32) : Nat := if !xWithin key 0 39 then 1 else if !xCbw v a b then 2 else if xSeen v key then 3 else 0
def xfUpdate (v : XS) (key a b : Int32) : Nat := if !xWithin key 0 39 then 1 else if !xCbw v a b then 2 else if !xSeen v key then 3 else 0
def xfDelete (v : XS) (key : Int32) : Nat := if !xWithin key 0 39 then 1 else if !xSeen v key then 2 else 0
def xfRekey (v : XS) (key to : Int32) : Nat := if !(xWithin key 0 39 && xWithin to 0 39) then 1 else if key = to then 2 else if !xSeen v key then 3 else if xSeen v to then 4 else 0
def xfStart (v : XS) (al pa : Int32) : Nat := if !(xWithin al 0 2 && xWithin pa 0 999) then 1 else if xp v = 0 then 0 else 2
def xfPace (ch lag : Int32) : Nat := if xWithin ch 1 40 && xWithin lag 0 100 then 0 else 1
def xfTick (v : XS) (lag : Int32) : Nat := if !xWithin lag 0 1000 then 1 else if xp v = 1 then 0 else 2
def xfCut (v : XS) (most : Int32) : Nat := if !xWithin most 0 1000 then 1 else if !decide (xp v = 1) || (decide (xm v < 40) || !decide (xc v ≤ most)) then 2 else 0
def xfUndo (v : XS) : Nat := if xp v = 2 then 0 else 1
def xfGive (v : XS) : Nat := if xp v = 1 then 0 else 1
def xfKey (key : Int32) : Nat := if xWithin key 0 39 then 0 else 1
def xfCol (col : Int32) : Nat := if xWithin col 0 2 then 0 else 1
def xfShadow (key col : Int32) : Nat := if xWithin key 0 39 && xWithin col 0 2 then 0 else 1
def xRekey (v : XS) (key to : Int32) : XS := xFollow (xFollow (xPut (xPut v to (xA v key.toNatClampNeg) (xB v key.toNatClampNeg)) key (-1) (-1)) (kMin key to)) (kMax key to)
def xStart (v : XS) (al pa : Int32) : XS := xUp (xUm (xUq (xUt v al) pa) 0) 1
end
section
set_option maxHeartbeats 4000000 in
set_option maxRecDepth 100000 in
theorem kX0_endChange (l : Launch) (D : va_G) (ca : Nat → ClassId) (ad : Nat → Nat) (v : XS) : CM l yX0_endChange cX0_endChange 5 none (KR 1 23) D ca (xw ad ca v) [.ref (ad 0)] none (xw ad ca (xEnd v)) := by
  refine CM.of (by decide) (Nat.le_of_ble_eq_true rfl) ?_
  intro p e s m below meth c A ls cx hml hr hlk hI hl
  have hl : lv_has ls 5 [(0, .ref (ad 0))] := hl
  refine lv_aload_n cx.1 cx.2.1 dX0_endChange_0 rfl (lv_at hl 0 rfl) ?_
  refine xg_2 cx hI dX0_endChange_1 ?_
  refine lv_astore_n (lv' := [(1, .ref (ad 3)), (0, .ref (ad 0))]) cx.1 cx.2.1 dX0_endChange_4 rfl hl (by decide) rfl (fun ls hl => ?_)
  refine lv_aload_n cx.1 cx.2.1 dX0_endChange_5 rfl (lv_at hl 0 rfl) ?_
  refine xl_cols cx hI dX0_endChange_6 ?_
  refine lv_istore_n (lv' := [(2, .int 3), (1, .ref (ad 3)), (0, .ref (ad 0))]) cx.1 cx.2.1 dX0_endChange_7 rfl hl (by decide) rfl (fun ls hl => ?_)
  refine lv_iconst (v := 0) cx.1 cx.2.1 dX0_endChange_8 (by decide) ?_
  refine lv_istore_n (lv' := [(3, .int 0), (2, .int 3), (1, .ref (ad 3)), (0, .ref (ad 0))]) cx.1 cx.2.1 dX0_endChange_9 rfl hl (by decide) rfl (fun ls hl => ?_)
  refine k_loop 3 (fun i => (xw ad ca (xClr v i))) (fun i => [(3, .int (nI i)), (2, .int 3), (1, .ref (ad 3)), (0, .ref (ad 0))]) hI (lv_sub hl [0, 1, 2, 3] rfl) (fun H locs ls hI hl => ?_) (fun i hi H locs ls hI hl ih => ?_)
  · have hI : KI D A (xw ad ca (xClr v 3)) s.heap H locs := hI
    have hl : lv_has ls 5 [(3, .int (nI 3)), (2, .int 3), (1, .ref (ad 3)), (0, .ref (ad 0))] := hl
    refine lv_iload_n cx.1 cx.2.1 dX0_endChange_10 rfl (lv_at hl 0 rfl) ?_
    refine lv_iload_n cx.1 cx.2.1 dX0_endChange_11 rfl (lv_at hl 1 rfl) ?_
    refine lv_icmp_ge (tgt := 32) cx.1 cx.2.1 dX0_endChange_12 (by decide) (fun _ => ?_) (fun h9 => absurd (by decide : (3 : Int32) ≤ nI 3) h9)
    refine lv_iconst (v := 0) cx.1 cx.2.1 dX0_endChange_32 (by decide) ?_
    refine lv_istore_n (lv' := [(1, .int 0), (3, .int (nI 3)), (2, .int 3), (0, .ref (ad 0))]) cx.1 cx.2.1 dX0_endChange_33 rfl hl (by decide) rfl (fun ls hl => ?_)
    refine k_loop 40 (fun i => (xw ad ca (xUnr (xClr v 3) i))) (fun i => [(1, .int (nI i)), (0, .ref (ad 0))]) hI (lv_sub hl [0, 3] rfl) (fun H locs ls hI hl => ?_) (fun i hi H locs ls hI hl ih => ?_)
    · have hI : KI D A (xw ad ca (xUnr (xClr v 3) 40)) s.heap H locs := hI
      have hl : lv_has ls 5 [(1, .int (nI 40)), (0, .ref (ad 0))] := hl
      refine lv_iload_n cx.1 cx.2.1 dX0_endChange_34 rfl (lv_at hl 0 rfl) ?_
      refine lv_bipush (v := 40) cx.1 cx.2.1 dX0_endChange_35 (by decide) ?_
      refine lv_icmp_ge (tgt := 53) cx.1 cx.2.1 dX0_endChange_37 (by decide) (fun _ => ?_) (fun h9 => absurd (by decide : (40 : Int32) ≤ nI 40) h9)
      refine lv_aload_n cx.1 cx.2.1 dX0_endChange_53 rfl (lv_at hl 1 rfl) ?_
      refine lv_iconst (v := 0) cx.1 cx.2.1 dX0_endChange_54 (by decide) ?_
      refine xp_5 cx hI dX0_endChange_55 (fun H locs hI => ?_)
      refine lv_aload_n cx.1 cx.2.1 dX0_endChange_58 rfl (lv_at hl 1 rfl) ?_
      refine lv_iconst (v := 0) cx.1 cx.2.1 dX0_endChange_59 (by decide) ?_
      refine xp_6 cx hI dX0_endChange_60 (fun H locs hI => ?_)
      exact ke_v cx hr hlk hI (Nat.zero_le _) (Nat.zero_le _) dX0_endChange_63 rfl (congrArg (xw ad ca) (by simp [xEnd]))
    · have hI : KI D A (xw ad ca (xUnr (xClr v 3) i)) s.heap H locs := hI
      have hl : lv_has ls 5 [(1, .int (nI i)), (0, .ref (ad 0))] := hl
      refine lv_iload_n cx.1 cx.2.1 dX0_endChange_34 rfl (lv_at hl 0 rfl) ?_
      refine lv_bipush (v := 40) cx.1 cx.2.1 dX0_endChange_35 (by decide) ?_
      refine lv_icmp_ge (tgt := 53) cx.1 cx.2.1 dX0_endChange_37 (by decide) (fun h9 => absurd h9 (nI_ge hi (by decide))) (fun _ => ?_)
      refine lv_aload_n cx.1 cx.2.1 dX0_endChange_40 rfl (lv_at hl 1 rfl) ?_
      refine xg_3 cx hI dX0_endChange_41 ?_
      refine lv_iload_n cx.1 cx.2.1 dX0_endChange_44 rfl (lv_at hl 0 rfl) ?_
      refine lv_iconst (v := 0) cx.1 cx.2.1 dX0_endChange_45 (by decide) ?_
      refine xs_R cx hI (vp_in_nI hi (by decide)) dX0_endChange_46 (fun H locs hI => ?_)
      refine lv_iinc (v := nI (i + 1)) (lv' := [(1, .int (nI (i + 1))), (0, .ref (ad 0))]) cx.1 cx.2.1 dX0_endChange_47 hl (k := 0) rfl (nI_1 i) (by decide) rfl (fun ls hl => ?_)
      refine lv_goto (tgt := 34) cx.1 cx.2.1 dX0_endChange_50 (by decide) ?_
      refine ih _ _ _ ?_ ?_
      · show KI D A (xw ad ca (xUnr (xClr v 3) (i + 1))) s.heap _ _
        rw [show xUnr (xClr v 3) (i + 1) = xUR (xUnr (xClr v 3) i) (upd (xR (xUnr (xClr v 3) i)) (nI i).toNatClampNeg (vp_nar .boolean 0)) from rfl]
        exact hI
      · show lv_has _ _ [(1, .int (nI (i + 1))), (0, .ref (ad 0))]
        exact lv_sub hl [0, 1] rfl
  · have hI : KI D A (xw ad ca (xClr v i)) s.heap H locs := hI
    have hl : lv_has ls 5 [(3, .int (nI i)), (2, .int 3), (1, .ref (ad 3)), (0, .ref (ad 0))] := hl
    refine lv_iload_n cx.1 cx.2.1 dX0_endChange_10 rfl (lv_at hl 0 rfl) ?_
    refine lv_iload_n cx.1 cx.2.1 dX0_endChange_11 rfl (lv_at hl 1 rfl) ?_
    refine lv_icmp_ge (tgt := 32) cx.1 cx.2.1 dX0_endChange_12 (by decide) (fun h9 => absurd h9 (nI_ge hi (by decide))) (fun _ => ?_)
    refine lv_aload_n cx.1 cx.2.1 dX0_endChange_15 rfl (lv_at hl 2 rfl) ?_
    refine lv_iload_n cx.1 cx.2.1 dX0_endChange_16 rfl (lv_at hl 0 rfl) ?_
    refine xa_cols cx hI (vp_in_nI hi (by decide)) dX0_endChange_17 ?_
    refine lv_astore (lv' := [(4, .ref (ad (4 + (nI i).toNatClampNeg))), (3, .int (nI i)), (2, .int 3), (1, .ref (ad 3)), (0, .ref (ad 0))]) cx.1 cx.2.1 dX0_endChange_18 hl (by decide) rfl (fun ls hl => ?_)
    refine lv_aload cx.1 cx.2.1 dX0_endChange_20 (lv_at hl 0 rfl) ?_
    refine lv_iconst (v := (-1)) cx.1 cx.2.1 dX0_endChange_22 (by decide) ?_
    refine k_fillcol cx (hl.1.trans hml.symm) hI (vp_in_nI hi (by decide)) wk_23 ⟨Nat.le_of_ble_eq_true rfl, Nat.le_of_ble_eq_true rfl⟩ (Nat.le_of_ble_eq_true rfl) dX0_endChange_23 ⟨Nat.zero_le _, Nat.zero_le _⟩ (fun H locs hI => ?_)
    refine lv_iinc (v := nI (i + 1)) (lv' := [(3, .int (nI (i + 1))), (4, .ref (ad (4 + (nI i).toNatClampNeg))), (2, .int 3), (1, .ref (ad 3)), (0, .ref (ad 0))]) cx.1 cx.2.1 dX0_endChange_26 hl (k := 1) rfl (nI_1 i) (by decide) rfl (fun ls hl => ?_)
    refine lv_goto (tgt := 10) cx.1 cx.2.1 dX0_endChange_29 (by decide) ?_
    refine ih _ _ _ ?_ ?_
    · show KI D A (xw ad ca (xClr v (i + 1))) s.heap _ _
      rw [show xClr v (i + 1) = xUC (xClr v i) (nI i).toNatClampNeg (kFill 40 (-1) (xC (xClr v i) (nI i).toNatClampNeg)) from rfl]
      exact hI
    · show lv_has _ _ [(3, .int (nI (i + 1))), (2, .int 3), (1, .ref (ad 3)), (0, .ref (ad 0))]
      exact lv_sub hl [0, 2, 3, 4] rfl
set_option maxHeartbeats 4000000 in
set_option maxRecDepth 100000 in
theorem kX0_removeRowsWithoutShadow (l : Launch) (D : va_G) (ca : Nat → ClassId) (ad : Nat → Nat) (v : XS) : CM l yX0_removeRowsWithoutShadow cX0_removeRowsWithoutShadow 3 (some .int) (KR 2 44) D ca (xw ad ca v) [.ref (ad 0)] (some (.int (xRemN v 40))) (xw ad ca (xRem v 40)) := by
  refine CM.of (by decide) (Nat.le_of_ble_eq_true rfl) ?_
  intro p e s m below meth c A ls cx hml hr hlk hI hl
  have hl : lv_has ls 3 [(0, .ref (ad 0))] := hl
  refine lv_iconst (v := 0) cx.1 cx.2.1 dX0_removeRowsWithoutShadow_0 (by decide) ?_
  refine lv_istore_n (lv' := [(1, .int 0), (0, .ref (ad 0))]) cx.1 cx.2.1 dX0_removeRowsWithoutShadow_1 rfl hl (by decide) rfl (fun ls hl => ?_)
  refine lv_iconst (v := 0) cx.1 cx.2.1 dX0_removeRowsWithoutShadow_2 (by decide) ?_
  refine lv_istore_n (lv' := [(2, .int 0), (1, .int 0), (0, .ref (ad 0))]) cx.1 cx.2.1 dX0_removeRowsWithoutShadow_3 rfl hl (by decide) rfl (fun ls hl => ?_)
  refine k_loop 40 (fun i => (xw ad ca (xRem v i))) (fun i => [(2, .int (nI i)), (1, .int (xRemN v i)), (0, .ref (ad 0))]) hI (lv_sub hl [0, 1, 2] rfl) (fun H locs ls hI hl => ?_) (fun i hi H locs ls hI hl ih => ?_)
  · have hI : KI D A (xw ad ca (xRem v 40)) s.heap H locs := hI
    have hl : lv_has ls 3 [(2, .int (nI 40)), (1, .int (xRemN v 40)), (0, .ref (ad 0))] := hl
    refine lv_iload_n cx.1 cx.2.1 dX0_removeRowsWithoutShadow_4 rfl (lv_at hl 0 rfl) ?_
    refine lv_bipush (v := 40) cx.1 cx.2.1 dX0_removeRowsWithoutShadow_5 (by decide) ?_
    refine lv_icmp_ge (tgt := 40) cx.1 cx.2.1 dX0_removeRowsWithoutShadow_7 (by decide) (fun _ => ?_) (fun h9 => absurd (by decide : (40 : Int32) ≤ nI 40) h9)
    refine lv_iload_n cx.1 cx.2.1 dX0_removeRowsWithoutShadow_40 rfl (lv_at hl 1 rfl) ?_
    exact ke_i cx hr hlk hI (Nat.zero_le _) (Nat.zero_le _) dX0_removeRowsWithoutShadow_41 rfl rfl
  · have hI : KI D A (xw ad ca (xRem v i)) s.heap H locs := hI
    have hl : lv_has ls 3 [(2, .int (nI i)), (1, .int (xRemN v i)), (0, .ref (ad 0))] := hl
    refine lv_iload_n cx.1 cx.2.1 dX0_removeRowsWithoutShadow_4 rfl (lv_at hl 0 rfl) ?_
    refine lv_bipush (v := 40) cx.1 cx.2.1 dX0_removeRowsWithoutShadow_5 (by decide) ?_
    refine lv_icmp_ge (tgt := 40) cx.1 cx.2.1 dX0_removeRowsWithoutShadow_7 (by decide) (fun h9 => absurd h9 (nI_ge hi (by decide))) (fun _ => ?_)
    refine lv_aload_n cx.1 cx.2.1 dX0_removeRowsWithoutShadow_10 rfl (lv_at hl 2 rfl) ?_
    refine lv_iload_n cx.1 cx.2.1 dX0_removeRowsWithoutShadow_11 rfl (lv_at hl 0 rfl) ?_
    refine xc_i 1 cx (hl.1.trans hml.symm) (kX0_isInOld l D ca ad (xRem v i) (nI i) (vp_in_nI hi (by decide))) hI wk_76 wk_73 wk_75 wq_1 ⟨rfl, by decide +kernel⟩ rfl ⟨rfl, rfl⟩ ⟨Nat.le_of_ble_eq_true rfl, Nat.le_of_ble_eq_true rfl⟩ (Nat.le_of_ble_eq_true rfl) dX0_removeRowsWithoutShadow_12 ⟨Nat.zero_le _, Nat.zero_le _⟩ rfl (fun H locs hI => ?_)
    refine kb_eq (tgt := 34) cx dX0_removeRowsWithoutShadow_15 (by decide) (fun c_3 => ?_) (fun c_3 => ?_)
    · refine lv_iinc (v := nI (i + 1)) (lv' := [(2, .int (nI (i + 1))), (1, .int (xRemN v i)), (0, .ref (ad 0))]) cx.1 cx.2.1 dX0_removeRowsWithoutShadow_34 hl (k := 0) rfl (nI_1 i) (by decide) rfl (fun ls hl => ?_)
      refine lv_goto (tgt := 4) cx.1 cx.2.1 dX0_removeRowsWithoutShadow_37 (by decide) ?_
      refine ih _ _ _ ?_ ?_
      · show KI D A (xw ad ca (xRem v (i + 1))) s.heap _ _
        rw [show xRem v (i + 1) = xRem v i from (by simp [c_3, xRem, xGo])]
        exact hI
      · show lv_has _ _ [(2, .int (nI (i + 1))), (1, .int (xRemN v (i + 1))), (0, .ref (ad 0))]
        rw [show xRemN v (i + 1) = xRemN v i from (by simp [c_3, xRemN, xGo, b2i])]
        exact lv_sub hl [0, 1, 2] rfl
    · refine lv_aload_n cx.1 cx.2.1 dX0_removeRowsWithoutShadow_18 rfl (lv_at hl 2 rfl) ?_
      refine lv_iload_n cx.1 cx.2.1 dX0_removeRowsWithoutShadow_19 rfl (lv_at hl 0 rfl) ?_
      refine xc_i 1 cx (hl.1.trans hml.symm) (kX0_isInShadow l D ca ad (xRem v i) (nI i) (vp_in_nI hi (by decide))) hI wk_80 wk_77 wk_79 wq_2 ⟨rfl, by decide +kernel⟩ rfl ⟨rfl, rfl⟩ ⟨Nat.le_of_ble_eq_true rfl, Nat.le_of_ble_eq_true rfl⟩ (Nat.le_of_ble_eq_true rfl) dX0_removeRowsWithoutShadow_20 ⟨Nat.zero_le _, Nat.zero_le _⟩ rfl (fun H locs hI => ?_)
      refine kb_ne (tgt := 34) cx dX0_removeRowsWithoutShadow_23 (by decide) (fun c_4 => ?_) (fun c_4 => ?_)
      · refine lv_iinc (v := nI (i + 1)) (lv' := [(2, .int (nI (i + 1))), (1, .int (xRemN v i)), (0, .ref (ad 0))]) cx.1 cx.2.1 dX0_removeRowsWithoutShadow_34 hl (k := 0) rfl (nI_1 i) (by decide) rfl (fun ls hl => ?_)
        refine lv_goto (tgt := 4) cx.1 cx.2.1 dX0_removeRowsWithoutShadow_37 (by decide) ?_
        refine ih _ _ _ ?_ ?_
        · show KI D A (xw ad ca (xRem v (i + 1))) s.heap _ _
          rw [show xRem v (i + 1) = xRem v i from (by simp [c_3, c_4, xRem, xGo])]
          exact hI
        · show lv_has _ _ [(2, .int (nI (i + 1))), (1, .int (xRemN v (i + 1))), (0, .ref (ad 0))]
          rw [show xRemN v (i + 1) = xRemN v i from (by simp [c_3, c_4, xRemN, xGo, b2i])]
          exact lv_sub hl [0, 1, 2] rfl
      · refine lv_aload_n cx.1 cx.2.1 dX0_removeRowsWithoutShadow_26 rfl (lv_at hl 2 rfl) ?_
        refine lv_iload_n cx.1 cx.2.1 dX0_removeRowsWithoutShadow_27 rfl (lv_at hl 0 rfl) ?_
        refine xc_v 1 cx (hl.1.trans hml.symm) (kX0_removeRow l D ca ad (xRem v i) (nI i) (vp_in_nI hi (by decide))) hI wk_303 wk_300 wk_302 wq_16 ⟨rfl, by decide +kernel⟩ rfl ⟨rfl, rfl⟩ ⟨Nat.le_of_ble_eq_true rfl, Nat.le_of_ble_eq_true rfl⟩ (Nat.le_of_ble_eq_true rfl) dX0_removeRowsWithoutShadow_28 ⟨Nat.zero_le _, Nat.zero_le _⟩ rfl (fun H locs hI => ?_)
        refine lv_iinc (v := xRemN v i + 1) (lv' := [(1, .int (xRemN v i + 1)), (2, .int (nI i)), (0, .ref (ad 0))]) cx.1 cx.2.1 dX0_removeRowsWithoutShadow_31 hl (k := 1) rfl rfl (by decide) rfl (fun ls hl => ?_)
        refine lv_iinc (v := nI (i + 1)) (lv' := [(2, .int (nI (i + 1))), (1, .int (xRemN v i + 1)), (0, .ref (ad 0))]) cx.1 cx.2.1 dX0_removeRowsWithoutShadow_34 hl (k := 1) rfl (nI_1 i) (by decide) rfl (fun ls hl => ?_)
        refine lv_goto (tgt := 4) cx.1 cx.2.1 dX0_removeRowsWithoutShadow_37 (by decide) ?_
        refine ih _ _ _ ?_ ?_
        · show KI D A (xw ad ca (xRem v (i + 1))) s.heap _ _
          rw [show xRem v (i + 1) = xPut (xRem v i) (nI i) (-1) (-1) from (by simp [c_3, c_4, xRem, xGo])]
          exact hI
        · show lv_has _ _ [(2, .int (nI (i + 1))), (1, .int (xRemN v (i + 1))), (0, .ref (ad 0))]
          rw [show xRemN v (i + 1) = xRemN v i + 1 from (by simp [c_3, c_4, xRemN, xGo, b2i])]
          exact lv_sub hl [0, 1, 2] rfl
set_option maxHeartbeats 4000000 in
set_option maxRecDepth 100000 in
theorem kX0_copyChunk (l : Launch) (D : va_G) (ca : Nat → ClassId) (ad : Nat → Nat) (v : XS) (mk n : Nat) (hm : xm v = nI mk) (he : xCopyE v = nI (mk + n)) (hle : mk + n ≤ 40) : CM l yX0_copyChunk cX0_copyChunk 4 (some .int) (KR 5 108) D ca (xw ad ca v) [.ref (ad 0)] (some (.int (xCopyE v - xm v))) (xw ad ca (xCopy v mk n)) := by
  refine CM.of (by decide) (Nat.le_of_ble_eq_true rfl) ?_
  intro p e s m below meth c A ls cx hml hr hlk hI hl
  have hl : lv_has ls 4 [(0, .ref (ad 0))] := hl
  refine lv_aload_n cx.1 cx.2.1 dX0_copyChunk_0 rfl (lv_at hl 0 rfl) ?_
  refine xg_7 cx hI dX0_copyChunk_1 ?_
  refine lv_aload_n cx.1 cx.2.1 dX0_copyChunk_4 rfl (lv_at hl 0 rfl) ?_
  refine xg_10 cx hI dX0_copyChunk_5 ?_
  refine lv_iadd cx.1 cx.2.1 dX0_copyChunk_8 ?_
  refine lv_bipush (v := 40) cx.1 cx.2.1 dX0_copyChunk_9 (by decide) ?_
  refine k_mmin cx (hml.trans hl.1.symm) (cx.2.2.2.1 _ wk_314) (Nat.le_of_ble_eq_true rfl) (Nat.le_of_ble_eq_true rfl) (Nat.zero_le _) (Nat.zero_le _) dX0_copyChunk_11 ?_
  refine k_top (y := kMin ((xm v) + (xk v)) 40) rfl ?_
  refine k_top (y := xCopyE v) rfl ?_
  refine lv_istore_n (lv' := [(1, .int (xCopyE v)), (0, .ref (ad 0))]) cx.1 cx.2.1 dX0_copyChunk_14 rfl hl (by decide) rfl (fun ls hl => ?_)
  refine lv_iload_n cx.1 cx.2.1 dX0_copyChunk_15 rfl (lv_at hl 0 rfl) ?_
  refine lv_aload_n cx.1 cx.2.1 dX0_copyChunk_16 rfl (lv_at hl 1 rfl) ?_
  refine xg_7 cx hI dX0_copyChunk_17 ?_
  refine lv_isub cx.1 cx.2.1 dX0_copyChunk_20 ?_
  refine lv_istore_n (lv' := [(2, .int ((xCopyE v) - (xm v))), (1, .int (xCopyE v)), (0, .ref (ad 0))]) cx.1 cx.2.1 dX0_copyChunk_21 rfl hl (by decide) rfl (fun ls hl => ?_)
  refine lv_aload_n cx.1 cx.2.1 dX0_copyChunk_22 rfl (lv_at hl 2 rfl) ?_
  refine xg_7 cx hI dX0_copyChunk_23 ?_
  refine lv_istore_n (lv' := [(3, .int (xm v)), (2, .int ((xCopyE v) - (xm v))), (1, .int (xCopyE v)), (0, .ref (ad 0))]) cx.1 cx.2.1 dX0_copyChunk_26 rfl hl (by decide) rfl (fun ls hl => ?_)
  refine k_loop n (fun i => (xw ad ca (xCopyL v mk i))) (fun i => [(3, .int (nI (mk + i))), (1, .int (nI (mk + n))), (2, .int (xCopyE v - xm v)), (0, .ref (ad 0))]) hI (by show lv_has _ _ [(3, .int (nI (mk + 0))), (1, .int (nI (mk + n))), (2, .int (xCopyE v - xm v)), (0, .ref (ad 0))]; rw [show nI (mk + 0) = xm v from hm.symm, ← he]; exact lv_sub hl [0, 2, 1, 3] rfl) (fun H locs ls hI hl => ?_) (fun i hi H locs ls hI hl ih => ?_)
  · have hI : KI D A (xw ad ca (xCopyL v mk n)) s.heap H locs := hI
    have hl : lv_has ls 4 [(3, .int (nI (mk + n))), (1, .int (nI (mk + n))), (2, .int (xCopyE v - xm v)), (0, .ref (ad 0))] := hl
    refine lv_iload_n cx.1 cx.2.1 dX0_copyChunk_27 rfl (lv_at hl 0 rfl) ?_
    refine lv_iload_n cx.1 cx.2.1 dX0_copyChunk_28 rfl (lv_at hl 1 rfl) ?_
    refine lv_icmp_ge (tgt := 43) cx.1 cx.2.1 dX0_copyChunk_29 (by decide) (fun _ => ?_) (fun h9 => absurd (Int32.le_refl _) h9)
    refine lv_aload_n cx.1 cx.2.1 dX0_copyChunk_43 rfl (lv_at hl 3 rfl) ?_
    refine lv_iload_n cx.1 cx.2.1 dX0_copyChunk_44 rfl (lv_at hl 1 rfl) ?_
    refine xp_7 cx hI dX0_copyChunk_45 (fun H locs hI => ?_)
    refine lv_iload_n cx.1 cx.2.1 dX0_copyChunk_48 rfl (lv_at hl 2 rfl) ?_
    exact ke_i cx hr hlk hI (Nat.zero_le _) (Nat.zero_le _) dX0_copyChunk_49 rfl (congrArg (xw ad ca) (by simp [xCopy, he]))
  · have hI : KI D A (xw ad ca (xCopyL v mk i)) s.heap H locs := hI
    have hl : lv_has ls 4 [(3, .int (nI (mk + i))), (1, .int (nI (mk + n))), (2, .int (xCopyE v - xm v)), (0, .ref (ad 0))] := hl
    refine lv_iload_n cx.1 cx.2.1 dX0_copyChunk_27 rfl (lv_at hl 0 rfl) ?_
    refine lv_iload_n cx.1 cx.2.1 dX0_copyChunk_28 rfl (lv_at hl 1 rfl) ?_
    refine lv_icmp_ge (tgt := 43) cx.1 cx.2.1 dX0_copyChunk_29 (by decide) (fun h9 => absurd h9 (nI_ge (show mk + i < mk + n by omega) (by omega))) (fun _ => ?_)
    refine lv_aload_n cx.1 cx.2.1 dX0_copyChunk_32 rfl (lv_at hl 3 rfl) ?_
    refine lv_iload_n cx.1 cx.2.1 dX0_copyChunk_33 rfl (lv_at hl 0 rfl) ?_
    refine xc_v 1 cx (hl.1.trans hml.symm) (kX0_bring l D ca ad (xCopyL v mk i) (nI (mk + i)) (vp_in_nI (show mk + i < 40 by omega) (by decide))) hI wk_264 wk_261 wk_263 wq_14 ⟨rfl, by decide +kernel⟩ rfl ⟨rfl, rfl⟩ ⟨Nat.le_of_ble_eq_true rfl, Nat.le_of_ble_eq_true rfl⟩ (Nat.le_of_ble_eq_true rfl) dX0_copyChunk_34 ⟨Nat.zero_le _, Nat.zero_le _⟩ rfl (fun H locs hI => ?_)
    refine lv_iinc (v := nI (mk + (i + 1))) (lv' := [(3, .int (nI (mk + (i + 1)))), (1, .int (nI (mk + n))), (2, .int (xCopyE v - xm v)), (0, .ref (ad 0))]) cx.1 cx.2.1 dX0_copyChunk_37 hl (k := 0) rfl (nI_1 (mk + i)) (by decide) rfl (fun ls hl => ?_)
    refine lv_goto (tgt := 27) cx.1 cx.2.1 dX0_copyChunk_40 (by decide) ?_
    refine ih _ _ _ ?_ ?_
    · show KI D A (xw ad ca (xCopyL v mk (i + 1))) s.heap _ _
      rw [show xCopyL v mk (i + 1) = xBring (xCopyL v mk i) (nI (mk + i)) from rfl]
      exact hI
    · show lv_has _ _ [(3, .int (nI (mk + (i + 1)))), (1, .int (nI (mk + n))), (2, .int (xCopyE v - xm v)), (0, .ref (ad 0))]
      exact lv_sub hl [0, 1, 2, 3] rfl
set_option maxHeartbeats 4000000 in
set_option maxRecDepth 100000 in
theorem kX0_playNotes (l : Launch) (D : va_G) (ca : Nat → ClassId) (ad : Nat → Nat) (v : XS) (count : Int32) (cn n : Nat) (hc : count = nI cn) (hn : xc v = nI n) (hcn : cn ≤ n) (hn2 : n ≤ 1024) (hN : ∀ j, j < cn → vp_in (xN v (nI j).toNatClampNeg) 40) : CM l yX0_playNotes cX0_playNotes 3 (some .int) (KR 5 108) D ca (xw ad ca v) [.ref (ad 0), .int count] (some (.int (nI cn))) (xw ad ca (xPlay v cn)) := by
  refine CM.of (by decide) (Nat.le_of_ble_eq_true rfl) ?_
  intro p e s m below meth c A ls cx hml hr hlk hI hl
  subst hc
  have hl : lv_has ls 3 [(0, .ref (ad 0)), (1, .int (nI cn))] := hl
  refine lv_iconst (v := 0) cx.1 cx.2.1 dX0_playNotes_0 (by decide) ?_
  refine lv_istore_n (lv' := [(2, .int 0), (0, .ref (ad 0)), (1, .int (nI cn))]) cx.1 cx.2.1 dX0_playNotes_1 rfl hl (by decide) rfl (fun ls hl => ?_)
  refine k_loop cn (fun i => (xw ad ca (xPlayL v i))) (fun i => [(2, .int (nI i)), (1, .int (nI cn)), (0, .ref (ad 0))]) hI (lv_sub hl [0, 2, 1] rfl) (fun H locs ls hI hl => ?_) (fun i hi H locs ls hI hl ih => ?_)
  · have hI : KI D A (xw ad ca (xPlayL v cn)) s.heap H locs := hI
    have hl : lv_has ls 3 [(2, .int (nI cn)), (1, .int (nI cn)), (0, .ref (ad 0))] := hl
    refine lv_iload_n cx.1 cx.2.1 dX0_playNotes_2 rfl (lv_at hl 0 rfl) ?_
    refine lv_iload_n cx.1 cx.2.1 dX0_playNotes_3 rfl (lv_at hl 1 rfl) ?_
    refine lv_icmp_ge (tgt := 23) cx.1 cx.2.1 dX0_playNotes_4 (by decide) (fun _ => ?_) (fun h9 => absurd (Int32.le_refl _) h9)
    refine lv_aload_n cx.1 cx.2.1 dX0_playNotes_23 rfl (lv_at hl 2 rfl) ?_
    refine lv_dup cx.1 cx.2.1 dX0_playNotes_24 rfl ?_
    refine xg_5 cx hI dX0_playNotes_25 ?_
    refine lv_iload_n cx.1 cx.2.1 dX0_playNotes_28 rfl (lv_at hl 1 rfl) ?_
    refine lv_isub cx.1 cx.2.1 dX0_playNotes_29 ?_
    refine xp_5 cx hI dX0_playNotes_30 (fun H locs hI => ?_)
    have hI : KI D A (xw ad ca (xPlayC v cn)) s.heap _ _ := hI
    have hq : xc (xPlayC v cn) = nI (n - cn) := by show xc (xPlayL v cn) - nI cn = _; rw [xPlayL_c, hn, pk_sub hcn]
    refine lv_aload_n cx.1 cx.2.1 dX0_playNotes_33 rfl (lv_at hl 2 rfl) ?_
    refine xg_4 cx hI dX0_playNotes_34 ?_
    refine lv_iload_n cx.1 cx.2.1 dX0_playNotes_37 rfl (lv_at hl 1 rfl) ?_
    refine lv_aload_n cx.1 cx.2.1 dX0_playNotes_38 rfl (lv_at hl 2 rfl) ?_
    refine xg_4 cx hI dX0_playNotes_39 ?_
    refine lv_iconst (v := 0) cx.1 cx.2.1 dX0_playNotes_42 (by decide) ?_
    refine lv_aload_n cx.1 cx.2.1 dX0_playNotes_43 rfl (lv_at hl 2 rfl) ?_
    refine xg_5 cx hI dX0_playNotes_44 ?_
    refine k_copyN cx (hl.1.trans hml.symm) hI wk_354 (nI_pos (by omega)) (by decide) (by rw [hq]; exact nI_pos (by omega)) (by rw [hq, nI_clamp (by omega), nI_clamp (by omega)]; omega) (by rw [hq, nI_clamp (by omega)]; show 0 + _ ≤ _; omega) (Nat.le_of_ble_eq_true rfl) (Nat.le_of_ble_eq_true rfl) dX0_playNotes_47 (fun H locs hI => ?_)
    refine lv_iload_n cx.1 cx.2.1 dX0_playNotes_50 rfl (lv_at hl 1 rfl) ?_
    exact ke_i cx hr hlk hI (Nat.zero_le _) (Nat.zero_le _) dX0_playNotes_51 rfl (congrArg (xw ad ca) (by simp [xPlay]))
  · have hI : KI D A (xw ad ca (xPlayL v i)) s.heap H locs := hI
    have hl : lv_has ls 3 [(2, .int (nI i)), (1, .int (nI cn)), (0, .ref (ad 0))] := hl
    refine lv_iload_n cx.1 cx.2.1 dX0_playNotes_2 rfl (lv_at hl 0 rfl) ?_
    refine lv_iload_n cx.1 cx.2.1 dX0_playNotes_3 rfl (lv_at hl 1 rfl) ?_
    refine lv_icmp_ge (tgt := 23) cx.1 cx.2.1 dX0_playNotes_4 (by decide) (fun h9 => absurd h9 (nI_ge hi (by omega))) (fun _ => ?_)
    refine lv_aload_n cx.1 cx.2.1 dX0_playNotes_7 rfl (lv_at hl 2 rfl) ?_
    refine lv_aload_n cx.1 cx.2.1 dX0_playNotes_8 rfl (lv_at hl 2 rfl) ?_
    refine xg_4 cx hI dX0_playNotes_9 ?_
    refine lv_iload_n cx.1 cx.2.1 dX0_playNotes_12 rfl (lv_at hl 0 rfl) ?_
    refine xa_N cx hI (vp_in_nI (show i < 1024 by omega) (by decide)) dX0_playNotes_13 ?_
    refine xc_v 1 cx (hl.1.trans hml.symm) (kX0_bring l D ca ad (xPlayL v i) (xN (xPlayL v i) (nI i).toNatClampNeg) (by rw [xPlayL_N]; exact hN i hi)) hI wk_264 wk_261 wk_263 wq_14 ⟨rfl, by decide +kernel⟩ rfl ⟨rfl, rfl⟩ ⟨Nat.le_of_ble_eq_true rfl, Nat.le_of_ble_eq_true rfl⟩ (Nat.le_of_ble_eq_true rfl) dX0_playNotes_14 ⟨Nat.zero_le _, Nat.zero_le _⟩ rfl (fun H locs hI => ?_)
    refine lv_iinc (v := nI (i + 1)) (lv' := [(2, .int (nI (i + 1))), (1, .int (nI cn)), (0, .ref (ad 0))]) cx.1 cx.2.1 dX0_playNotes_17 hl (k := 0) rfl (nI_1 i) (by decide) rfl (fun ls hl => ?_)
    refine lv_goto (tgt := 2) cx.1 cx.2.1 dX0_playNotes_20 (by decide) ?_
    refine ih _ _ _ ?_ ?_
    · show KI D A (xw ad ca (xPlayL v (i + 1))) s.heap _ _
      rw [show xPlayL v (i + 1) = xBring (xPlayL v i) (xN (xPlayL v i) (nI i).toNatClampNeg) from rfl]
      exact hI
    · show lv_has _ _ [(2, .int (nI (i + 1))), (1, .int (nI cn)), (0, .ref (ad 0))]
      exact lv_sub hl [0, 1, 2] rfl
end
section
set_option maxHeartbeats 4000000 in
set_option maxRecDepth 100000 in
theorem kX0_insert (l : Launch) (D : va_G) (ca : Nat → ClassId) (ad : Nat → Nat) (v : XS) (key a b : Int32) (h0 : ¬ xc v < 0) (hlS : l.stackTraces = false) : CX l yX0_insert cX0_insert 4 none (KR1 6 129) D ca (xw ad ca v) [.ref (ad 0), .int key, .int a, .int b] (xfInsert v key a b = 0) none (xw ad ca (xFollow (xPut v key a b) key)) (fun E => (xfInsert v key a b = 1 ∧ E = "java/lang/IndexOutOfBoundsException") ∨ (xfInsert v key a b = 2 ∧ E = "java/lang/IllegalArgumentException") ∨ (xfInsert v key a b = 3 ∧ E = "java/lang/IllegalStateException")) := by
  refine CX.of (by decide) (Nat.le_of_ble_eq_true rfl) ?_
  intro p e s m below meth c A ls cx hml hr hlk htab hE hI hl
  have hl : lv_has ls 4 [(0, .ref (ad 0)), (1, .int key), (2, .int a), (3, .int b)] := hl
  refine lv_iload_n cx.1 cx.2.1 dX0_insert_0 rfl (lv_at hl 1 rfl) ?_
  refine ks_i 1 cx (hl.1.trans hml.symm) (kX0_isKey l D ca key) hI wk_140 wk_138 wk_139 wk_1 ⟨by decide, by decide, by decide +kernel⟩ rfl ⟨rfl, rfl⟩ ⟨Nat.le_of_ble_eq_true rfl, Nat.le_of_ble_eq_true rfl⟩ (Nat.le_of_ble_eq_true rfl) dX0_insert_1 ⟨Nat.zero_le _, Nat.zero_le _⟩ rfl (fun H locs hI => ?_)
  refine kb_ne (tgt := 17) cx dX0_insert_4 (by decide) (fun c_1 => ?_) (fun c_1 => ?_)
  · have hk : vp_in key 40 := xKey_in c_1
    refine lv_aload_n cx.1 cx.2.1 dX0_insert_17 rfl (lv_at hl 0 rfl) ?_
    refine lv_iload_n cx.1 cx.2.1 dX0_insert_18 rfl (lv_at hl 2 rfl) ?_
    refine lv_iload_n cx.1 cx.2.1 dX0_insert_19 rfl (lv_at hl 3 rfl) ?_
    refine xc_i 2 cx (hl.1.trans hml.symm) (kX0_canBeWritten l D ca ad v a b) hI wk_216 wk_213 wk_215 wq_10 ⟨rfl, by decide +kernel⟩ rfl ⟨rfl, rfl⟩ ⟨Nat.le_of_ble_eq_true rfl, Nat.le_of_ble_eq_true rfl⟩ (Nat.le_of_ble_eq_true rfl) dX0_insert_20 ⟨Nat.zero_le _, Nat.zero_le _⟩ rfl (fun H locs hI => ?_)
    refine kb_ne (tgt := 36) cx dX0_insert_23 (by decide) (fun c_2 => ?_) (fun c_2 => ?_)
    · refine lv_aload_n cx.1 cx.2.1 dX0_insert_36 rfl (lv_at hl 0 rfl) ?_
      refine lv_iload_n cx.1 cx.2.1 dX0_insert_37 rfl (lv_at hl 1 rfl) ?_
      refine xc_i 1 cx (hl.1.trans hml.symm) (kX0_isSeen l D ca ad v key hk) hI wk_72 wk_69 wk_71 wq_0 ⟨rfl, by decide +kernel⟩ rfl ⟨rfl, rfl⟩ ⟨Nat.le_of_ble_eq_true rfl, Nat.le_of_ble_eq_true rfl⟩ (Nat.le_of_ble_eq_true rfl) dX0_insert_38 ⟨Nat.zero_le _, Nat.zero_le _⟩ rfl (fun H locs hI => ?_)
      refine kb_eq (tgt := 54) cx dX0_insert_41 (by decide) (fun c_3 => ?_) (fun c_3 => ?_)
      · refine lv_aload_n cx.1 cx.2.1 dX0_insert_54 rfl (lv_at hl 0 rfl) ?_
        refine lv_iload_n cx.1 cx.2.1 dX0_insert_55 rfl (lv_at hl 1 rfl) ?_
        refine lv_iload_n cx.1 cx.2.1 dX0_insert_56 rfl (lv_at hl 2 rfl) ?_
        refine lv_iload_n cx.1 cx.2.1 dX0_insert_57 rfl (lv_at hl 3 rfl) ?_
        refine xc_v 3 cx (hl.1.trans hml.symm) (kX0_putRow l D ca ad v key a b hk) hI wk_252 wk_249 wk_251 wq_11 ⟨rfl, by decide +kernel⟩ rfl ⟨rfl, rfl⟩ ⟨Nat.le_of_ble_eq_true rfl, Nat.le_of_ble_eq_true rfl⟩ (Nat.le_of_ble_eq_true rfl) dX0_insert_58 ⟨Nat.zero_le _, Nat.zero_le _⟩ rfl (fun H locs hI => ?_)
        refine lv_aload_n cx.1 cx.2.1 dX0_insert_61 rfl (lv_at hl 0 rfl) ?_
        refine lv_iload_n cx.1 cx.2.1 dX0_insert_62 rfl (lv_at hl 1 rfl) ?_
        refine xc_v 1 cx (hl.1.trans hml.symm) (kX0_followWrite l D ca ad (xPut v key a b) key hk h0) hI wk_256 wk_253 wk_255 wq_12 ⟨rfl, by decide +kernel⟩ rfl ⟨rfl, rfl⟩ ⟨Nat.le_of_ble_eq_true rfl, Nat.le_of_ble_eq_true rfl⟩ (Nat.le_of_ble_eq_true rfl) dX0_insert_63 ⟨Nat.zero_le _, Nat.zero_le _⟩ rfl (fun H locs hI => ?_)
        exact ke_x (by simp [xfInsert, c_1, c_2, c_3]) (ke_v cx hr hlk hI (Nat.zero_le _) (Nat.zero_le _) dX0_insert_66 rfl rfl)
      · exact kt_ise cx hlS hlk htab hE hI (hl.1.trans hml.symm) (show (69, "there is a row with this key") ∈ kstrs by decide) dX0_insert_44 dX0_insert_47 dX0_insert_48 dX0_insert_50 dX0_insert_53 ⟨Nat.le_of_ble_eq_true rfl, Nat.le_of_ble_eq_true rfl⟩ ⟨Nat.le_of_ble_eq_true rfl, Nat.le_of_ble_eq_true rfl⟩ (Or.inr (Or.inr (⟨(by simp [xfInsert, c_1, c_2, c_3]), rfl⟩)))
    · exact kt_iae cx hlS hlk htab hE hI (hl.1.trans hml.symm) (show (61, "a or b is out of range, or the row does not fit") ∈ kstrs by decide) dX0_insert_26 dX0_insert_29 dX0_insert_30 dX0_insert_32 dX0_insert_35 ⟨Nat.le_of_ble_eq_true rfl, Nat.le_of_ble_eq_true rfl⟩ ⟨Nat.le_of_ble_eq_true rfl, Nat.le_of_ble_eq_true rfl⟩ (Or.inr (Or.inl (⟨(by simp [xfInsert, c_1, c_2]), rfl⟩)))
  · exact kt_iob cx hlS hlk htab hE hI (hl.1.trans hml.symm) (show (50, "there is no such key") ∈ kstrs by decide) dX0_insert_7 dX0_insert_10 dX0_insert_11 dX0_insert_13 dX0_insert_16 ⟨Nat.le_of_ble_eq_true rfl, Nat.le_of_ble_eq_true rfl⟩ ⟨Nat.le_of_ble_eq_true rfl, Nat.le_of_ble_eq_true rfl⟩ (Or.inl (⟨(by simp [xfInsert, c_1]), rfl⟩))
set_option maxHeartbeats 4000000 in
set_option maxRecDepth 100000 in
theorem kX0_update (l : Launch) (D : va_G) (ca : Nat → ClassId) (ad : Nat → Nat) (v : XS) (key a b : Int32) (h0 : ¬ xc v < 0) (hlS : l.stackTraces = false) : CX l yX0_update cX0_update 4 none (KR1 6 129) D ca (xw ad ca v) [.ref (ad 0), .int key, .int a, .int b] (xfUpdate v key a b = 0) none (xw ad ca (xFollow (xPut v key a b) key)) (fun E => (xfUpdate v key a b = 1 ∧ E = "java/lang/IndexOutOfBoundsException") ∨ (xfUpdate v key a b = 2 ∧ E = "java/lang/IllegalArgumentException") ∨ (xfUpdate v key a b = 3 ∧ E = "java/util/NoSuchElementException")) := by
  refine CX.of (by decide) (Nat.le_of_ble_eq_true rfl) ?_
  intro p e s m below meth c A ls cx hml hr hlk htab hE hI hl
  have hl : lv_has ls 4 [(0, .ref (ad 0)), (1, .int key), (2, .int a), (3, .int b)] := hl
  refine lv_iload_n cx.1 cx.2.1 dX0_update_0 rfl (lv_at hl 1 rfl) ?_
  refine ks_i 1 cx (hl.1.trans hml.symm) (kX0_isKey l D ca key) hI wk_140 wk_138 wk_139 wk_1 ⟨by decide, by decide, by decide +kernel⟩ rfl ⟨rfl, rfl⟩ ⟨Nat.le_of_ble_eq_true rfl, Nat.le_of_ble_eq_true rfl⟩ (Nat.le_of_ble_eq_true rfl) dX0_update_1 ⟨Nat.zero_le _, Nat.zero_le _⟩ rfl (fun H locs hI => ?_)
  refine kb_ne (tgt := 17) cx dX0_update_4 (by decide) (fun c_1 => ?_) (fun c_1 => ?_)
  · have hk : vp_in key 40 := xKey_in c_1
    refine lv_aload_n cx.1 cx.2.1 dX0_update_17 rfl (lv_at hl 0 rfl) ?_
    refine lv_iload_n cx.1 cx.2.1 dX0_update_18 rfl (lv_at hl 2 rfl) ?_
    refine lv_iload_n cx.1 cx.2.1 dX0_update_19 rfl (lv_at hl 3 rfl) ?_
    refine xc_i 2 cx (hl.1.trans hml.symm) (kX0_canBeWritten l D ca ad v a b) hI wk_216 wk_213 wk_215 wq_10 ⟨rfl, by decide +kernel⟩ rfl ⟨rfl, rfl⟩ ⟨Nat.le_of_ble_eq_true rfl, Nat.le_of_ble_eq_true rfl⟩ (Nat.le_of_ble_eq_true rfl) dX0_update_20 ⟨Nat.zero_le _, Nat.zero_le _⟩ rfl (fun H locs hI => ?_)
    refine kb_ne (tgt := 36) cx dX0_update_23 (by decide) (fun c_2 => ?_) (fun c_2 => ?_)
    · refine lv_aload_n cx.1 cx.2.1 dX0_update_36 rfl (lv_at hl 0 rfl) ?_
      refine lv_iload_n cx.1 cx.2.1 dX0_update_37 rfl (lv_at hl 1 rfl) ?_
      refine xc_i 1 cx (hl.1.trans hml.symm) (kX0_isSeen l D ca ad v key hk) hI wk_72 wk_69 wk_71 wq_0 ⟨rfl, by decide +kernel⟩ rfl ⟨rfl, rfl⟩ ⟨Nat.le_of_ble_eq_true rfl, Nat.le_of_ble_eq_true rfl⟩ (Nat.le_of_ble_eq_true rfl) dX0_update_38 ⟨Nat.zero_le _, Nat.zero_le _⟩ rfl (fun H locs hI => ?_)
      refine kb_ne (tgt := 54) cx dX0_update_41 (by decide) (fun c_3 => ?_) (fun c_3 => ?_)
      · refine lv_aload_n cx.1 cx.2.1 dX0_update_54 rfl (lv_at hl 0 rfl) ?_
        refine lv_iload_n cx.1 cx.2.1 dX0_update_55 rfl (lv_at hl 1 rfl) ?_
        refine lv_iload_n cx.1 cx.2.1 dX0_update_56 rfl (lv_at hl 2 rfl) ?_
        refine lv_iload_n cx.1 cx.2.1 dX0_update_57 rfl (lv_at hl 3 rfl) ?_
        refine xc_v 3 cx (hl.1.trans hml.symm) (kX0_putRow l D ca ad v key a b hk) hI wk_252 wk_249 wk_251 wq_11 ⟨rfl, by decide +kernel⟩ rfl ⟨rfl, rfl⟩ ⟨Nat.le_of_ble_eq_true rfl, Nat.le_of_ble_eq_true rfl⟩ (Nat.le_of_ble_eq_true rfl) dX0_update_58 ⟨Nat.zero_le _, Nat.zero_le _⟩ rfl (fun H locs hI => ?_)
        refine lv_aload_n cx.1 cx.2.1 dX0_update_61 rfl (lv_at hl 0 rfl) ?_
        refine lv_iload_n cx.1 cx.2.1 dX0_update_62 rfl (lv_at hl 1 rfl) ?_
        refine xc_v 1 cx (hl.1.trans hml.symm) (kX0_followWrite l D ca ad (xPut v key a b) key hk h0) hI wk_256 wk_253 wk_255 wq_12 ⟨rfl, by decide +kernel⟩ rfl ⟨rfl, rfl⟩ ⟨Nat.le_of_ble_eq_true rfl, Nat.le_of_ble_eq_true rfl⟩ (Nat.le_of_ble_eq_true rfl) dX0_update_63 ⟨Nat.zero_le _, Nat.zero_le _⟩ rfl (fun H locs hI => ?_)
        exact ke_x (by simp [xfUpdate, c_1, c_2, c_3]) (ke_v cx hr hlk hI (Nat.zero_le _) (Nat.zero_le _) dX0_update_66 rfl rfl)
      · exact kt_nse cx hlS hlk htab hE hI (hl.1.trans hml.symm) (show (82, "there is no row with this key") ∈ kstrs by decide) dX0_update_44 dX0_update_47 dX0_update_48 dX0_update_50 dX0_update_53 ⟨Nat.le_of_ble_eq_true rfl, Nat.le_of_ble_eq_true rfl⟩ ⟨Nat.le_of_ble_eq_true rfl, Nat.le_of_ble_eq_true rfl⟩ (Or.inr (Or.inr (⟨(by simp [xfUpdate, c_1, c_2, c_3]), rfl⟩)))
    · exact kt_iae cx hlS hlk htab hE hI (hl.1.trans hml.symm) (show (61, "a or b is out of range, or the row does not fit") ∈ kstrs by decide) dX0_update_26 dX0_update_29 dX0_update_30 dX0_update_32 dX0_update_35 ⟨Nat.le_of_ble_eq_true rfl, Nat.le_of_ble_eq_true rfl⟩ ⟨Nat.le_of_ble_eq_true rfl, Nat.le_of_ble_eq_true rfl⟩ (Or.inr (Or.inl (⟨(by simp [xfUpdate, c_1, c_2]), rfl⟩)))
  · exact kt_iob cx hlS hlk htab hE hI (hl.1.trans hml.symm) (show (50, "there is no such key") ∈ kstrs by decide) dX0_update_7 dX0_update_10 dX0_update_11 dX0_update_13 dX0_update_16 ⟨Nat.le_of_ble_eq_true rfl, Nat.le_of_ble_eq_true rfl⟩ ⟨Nat.le_of_ble_eq_true rfl, Nat.le_of_ble_eq_true rfl⟩ (Or.inl (⟨(by simp [xfUpdate, c_1]), rfl⟩))
set_option maxHeartbeats 4000000 in
set_option maxRecDepth 100000 in
theorem kX0_delete (l : Launch) (D : va_G) (ca : Nat → ClassId) (ad : Nat → Nat) (v : XS) (key : Int32) (h0 : ¬ xc v < 0) (hlS : l.stackTraces = false) : CX l yX0_delete cX0_delete 3 (some .int) (KR1 6 129) D ca (xw ad ca v) [.ref (ad 0), .int key] (xfDelete v key = 0) (some (.int (xRow v key))) (xw ad ca (xFollow (xPut v key (-1) (-1)) key)) (fun E => (xfDelete v key = 1 ∧ E = "java/lang/IndexOutOfBoundsException") ∨ (xfDelete v key = 2 ∧ E = "java/util/NoSuchElementException")) := by
  refine CX.of (by decide) (Nat.le_of_ble_eq_true rfl) ?_
  intro p e s m below meth c A ls cx hml hr hlk htab hE hI hl
  have hl : lv_has ls 3 [(0, .ref (ad 0)), (1, .int key)] := hl
  refine lv_iload_n cx.1 cx.2.1 dX0_delete_0 rfl (lv_at hl 1 rfl) ?_
  refine ks_i 1 cx (hl.1.trans hml.symm) (kX0_isKey l D ca key) hI wk_140 wk_138 wk_139 wk_1 ⟨by decide, by decide, by decide +kernel⟩ rfl ⟨rfl, rfl⟩ ⟨Nat.le_of_ble_eq_true rfl, Nat.le_of_ble_eq_true rfl⟩ (Nat.le_of_ble_eq_true rfl) dX0_delete_1 ⟨Nat.zero_le _, Nat.zero_le _⟩ rfl (fun H locs hI => ?_)
  refine kb_ne (tgt := 17) cx dX0_delete_4 (by decide) (fun c_1 => ?_) (fun c_1 => ?_)
  · have hk : vp_in key 40 := xKey_in c_1
    refine lv_aload_n cx.1 cx.2.1 dX0_delete_17 rfl (lv_at hl 0 rfl) ?_
    refine lv_iload_n cx.1 cx.2.1 dX0_delete_18 rfl (lv_at hl 1 rfl) ?_
    refine xc_i 1 cx (hl.1.trans hml.symm) (kX0_isSeen l D ca ad v key hk) hI wk_72 wk_69 wk_71 wq_0 ⟨rfl, by decide +kernel⟩ rfl ⟨rfl, rfl⟩ ⟨Nat.le_of_ble_eq_true rfl, Nat.le_of_ble_eq_true rfl⟩ (Nat.le_of_ble_eq_true rfl) dX0_delete_19 ⟨Nat.zero_le _, Nat.zero_le _⟩ rfl (fun H locs hI => ?_)
    refine kb_ne (tgt := 35) cx dX0_delete_22 (by decide) (fun c_2 => ?_) (fun c_2 => ?_)
    · refine lv_aload_n cx.1 cx.2.1 dX0_delete_35 rfl (lv_at hl 0 rfl) ?_
      refine lv_iload_n cx.1 cx.2.1 dX0_delete_36 rfl (lv_at hl 1 rfl) ?_
      refine xc_i 1 cx (hl.1.trans hml.symm) (kX0_rowAsNumber l D ca ad v key hk) hI wk_299 wk_296 wk_298 wq_15 ⟨rfl, by decide +kernel⟩ rfl ⟨rfl, rfl⟩ ⟨Nat.le_of_ble_eq_true rfl, Nat.le_of_ble_eq_true rfl⟩ (Nat.le_of_ble_eq_true rfl) dX0_delete_37 ⟨Nat.zero_le _, Nat.zero_le _⟩ rfl (fun H locs hI => ?_)
      refine lv_istore_n (lv' := [(2, .int (xRow v key)), (0, .ref (ad 0)), (1, .int key)]) cx.1 cx.2.1 dX0_delete_40 rfl hl (by decide) rfl (fun ls hl => ?_)
      refine lv_aload_n cx.1 cx.2.1 dX0_delete_41 rfl (lv_at hl 1 rfl) ?_
      refine lv_iload_n cx.1 cx.2.1 dX0_delete_42 rfl (lv_at hl 2 rfl) ?_
      refine xc_v 1 cx (hl.1.trans hml.symm) (kX0_removeRow l D ca ad v key hk) hI wk_303 wk_300 wk_302 wq_16 ⟨rfl, by decide +kernel⟩ rfl ⟨rfl, rfl⟩ ⟨Nat.le_of_ble_eq_true rfl, Nat.le_of_ble_eq_true rfl⟩ (Nat.le_of_ble_eq_true rfl) dX0_delete_43 ⟨Nat.zero_le _, Nat.zero_le _⟩ rfl (fun H locs hI => ?_)
      refine lv_aload_n cx.1 cx.2.1 dX0_delete_46 rfl (lv_at hl 1 rfl) ?_
      refine lv_iload_n cx.1 cx.2.1 dX0_delete_47 rfl (lv_at hl 2 rfl) ?_
      refine xc_v 1 cx (hl.1.trans hml.symm) (kX0_followWrite l D ca ad (xPut v key (-1) (-1)) key hk h0) hI wk_256 wk_253 wk_255 wq_12 ⟨rfl, by decide +kernel⟩ rfl ⟨rfl, rfl⟩ ⟨Nat.le_of_ble_eq_true rfl, Nat.le_of_ble_eq_true rfl⟩ (Nat.le_of_ble_eq_true rfl) dX0_delete_48 ⟨Nat.zero_le _, Nat.zero_le _⟩ rfl (fun H locs hI => ?_)
      refine lv_iload_n cx.1 cx.2.1 dX0_delete_51 rfl (lv_at hl 0 rfl) ?_
      exact ke_x (by simp [xfDelete, c_1, c_2]) (ke_i cx hr hlk hI (Nat.zero_le _) (Nat.zero_le _) dX0_delete_52 rfl rfl)
    · exact kt_nse cx hlS hlk htab hE hI (hl.1.trans hml.symm) (show (82, "there is no row with this key") ∈ kstrs by decide) dX0_delete_25 dX0_delete_28 dX0_delete_29 dX0_delete_31 dX0_delete_34 ⟨Nat.le_of_ble_eq_true rfl, Nat.le_of_ble_eq_true rfl⟩ ⟨Nat.le_of_ble_eq_true rfl, Nat.le_of_ble_eq_true rfl⟩ (Or.inr (⟨(by simp [xfDelete, c_1, c_2]), rfl⟩))
  · exact kt_iob cx hlS hlk htab hE hI (hl.1.trans hml.symm) (show (50, "there is no such key") ∈ kstrs by decide) dX0_delete_7 dX0_delete_10 dX0_delete_11 dX0_delete_13 dX0_delete_16 ⟨Nat.le_of_ble_eq_true rfl, Nat.le_of_ble_eq_true rfl⟩ ⟨Nat.le_of_ble_eq_true rfl, Nat.le_of_ble_eq_true rfl⟩ (Or.inl (⟨(by simp [xfDelete, c_1]), rfl⟩))
set_option maxHeartbeats 4000000 in
set_option maxRecDepth 100000 in
theorem kX0_rekey (l : Launch) (D : va_G) (ca : Nat → ClassId) (ad : Nat → Nat) (v : XS) (key to : Int32) (h0 : ¬ xc v < 0) (hlS : l.stackTraces = false) : CX l yX0_rekey cX0_rekey 3 none (KR1 6 129) D ca (xw ad ca v) [.ref (ad 0), .int key, .int to] (xfRekey v key to = 0) none (xw ad ca (xRekey v key to)) (fun E => (xfRekey v key to = 1 ∧ E = "java/lang/IndexOutOfBoundsException") ∨ (xfRekey v key to = 2 ∧ E = "java/lang/IllegalArgumentException") ∨ (xfRekey v key to = 3 ∧ E = "java/util/NoSuchElementException") ∨ (xfRekey v key to = 4 ∧ E = "java/lang/IllegalStateException")) := by
  refine CX.of (by decide) (Nat.le_of_ble_eq_true rfl) ?_
  intro p e s m below meth c A ls cx hml hr hlk htab hE hI hl
  have hl : lv_has ls 3 [(0, .ref (ad 0)), (1, .int key), (2, .int to)] := hl
  refine lv_iload_n cx.1 cx.2.1 dX0_rekey_0 rfl (lv_at hl 1 rfl) ?_
  refine ks_i 1 cx (hl.1.trans hml.symm) (kX0_isKey l D ca key) hI wk_140 wk_138 wk_139 wk_1 ⟨by decide, by decide, by decide +kernel⟩ rfl ⟨rfl, rfl⟩ ⟨Nat.le_of_ble_eq_true rfl, Nat.le_of_ble_eq_true rfl⟩ (Nat.le_of_ble_eq_true rfl) dX0_rekey_1 ⟨Nat.zero_le _, Nat.zero_le _⟩ rfl (fun H locs hI => ?_)
  refine kb_eq (tgt := 14) cx dX0_rekey_4 (by decide) (fun c_1 => ?_) (fun c_1 => ?_)
  · exact kt_iob cx hlS hlk htab hE hI (hl.1.trans hml.symm) (show (50, "there is no such key") ∈ kstrs by decide) dX0_rekey_14 dX0_rekey_17 dX0_rekey_18 dX0_rekey_20 dX0_rekey_23 ⟨Nat.le_of_ble_eq_true rfl, Nat.le_of_ble_eq_true rfl⟩ ⟨Nat.le_of_ble_eq_true rfl, Nat.le_of_ble_eq_true rfl⟩ (Or.inl (⟨(by simp [xRekey, xfRekey, c_1]), rfl⟩))
  · refine lv_iload_n cx.1 cx.2.1 dX0_rekey_7 rfl (lv_at hl 2 rfl) ?_
    refine ks_i 1 cx (hl.1.trans hml.symm) (kX0_isKey l D ca to) hI wk_140 wk_138 wk_139 wk_1 ⟨by decide, by decide, by decide +kernel⟩ rfl ⟨rfl, rfl⟩ ⟨Nat.le_of_ble_eq_true rfl, Nat.le_of_ble_eq_true rfl⟩ (Nat.le_of_ble_eq_true rfl) dX0_rekey_8 ⟨Nat.zero_le _, Nat.zero_le _⟩ rfl (fun H locs hI => ?_)
    refine kb_ne (tgt := 24) cx dX0_rekey_11 (by decide) (fun c_2 => ?_) (fun c_2 => ?_)
    · have hk : vp_in key 40 := xKey_in c_1
      have hk2 : vp_in to 40 := xKey_in c_2
      refine lv_iload_n cx.1 cx.2.1 dX0_rekey_24 rfl (lv_at hl 1 rfl) ?_
      refine lv_iload_n cx.1 cx.2.1 dX0_rekey_25 rfl (lv_at hl 2 rfl) ?_
      refine lv_icmp_ne (tgt := 39) cx.1 cx.2.1 dX0_rekey_26 (by decide) (fun c_3 => ?_) (fun c_3 => ?_)
      · refine lv_aload_n cx.1 cx.2.1 dX0_rekey_39 rfl (lv_at hl 0 rfl) ?_
        refine lv_iload_n cx.1 cx.2.1 dX0_rekey_40 rfl (lv_at hl 1 rfl) ?_
        refine xc_i 1 cx (hl.1.trans hml.symm) (kX0_isSeen l D ca ad v key hk) hI wk_72 wk_69 wk_71 wq_0 ⟨rfl, by decide +kernel⟩ rfl ⟨rfl, rfl⟩ ⟨Nat.le_of_ble_eq_true rfl, Nat.le_of_ble_eq_true rfl⟩ (Nat.le_of_ble_eq_true rfl) dX0_rekey_41 ⟨Nat.zero_le _, Nat.zero_le _⟩ rfl (fun H locs hI => ?_)
        refine kb_ne (tgt := 57) cx dX0_rekey_44 (by decide) (fun c_4 => ?_) (fun c_4 => ?_)
        · refine lv_aload_n cx.1 cx.2.1 dX0_rekey_57 rfl (lv_at hl 0 rfl) ?_
          refine lv_iload_n cx.1 cx.2.1 dX0_rekey_58 rfl (lv_at hl 2 rfl) ?_
          refine xc_i 1 cx (hl.1.trans hml.symm) (kX0_isSeen l D ca ad v to hk2) hI wk_72 wk_69 wk_71 wq_0 ⟨rfl, by decide +kernel⟩ rfl ⟨rfl, rfl⟩ ⟨Nat.le_of_ble_eq_true rfl, Nat.le_of_ble_eq_true rfl⟩ (Nat.le_of_ble_eq_true rfl) dX0_rekey_59 ⟨Nat.zero_le _, Nat.zero_le _⟩ rfl (fun H locs hI => ?_)
          refine kb_eq (tgt := 75) cx dX0_rekey_62 (by decide) (fun c_5 => ?_) (fun c_5 => ?_)
          · refine lv_aload_n cx.1 cx.2.1 dX0_rekey_75 rfl (lv_at hl 0 rfl) ?_
            refine lv_iload_n cx.1 cx.2.1 dX0_rekey_76 rfl (lv_at hl 2 rfl) ?_
            refine lv_aload_n cx.1 cx.2.1 dX0_rekey_77 rfl (lv_at hl 0 rfl) ?_
            refine xg_0 cx hI dX0_rekey_78 ?_
            refine lv_iload_n cx.1 cx.2.1 dX0_rekey_81 rfl (lv_at hl 1 rfl) ?_
            refine xa_A cx hI hk dX0_rekey_82 ?_
            refine lv_aload_n cx.1 cx.2.1 dX0_rekey_83 rfl (lv_at hl 0 rfl) ?_
            refine xg_1 cx hI dX0_rekey_84 ?_
            refine lv_iload_n cx.1 cx.2.1 dX0_rekey_87 rfl (lv_at hl 1 rfl) ?_
            refine xa_B cx hI hk dX0_rekey_88 ?_
            refine xc_v 3 cx (hl.1.trans hml.symm) (kX0_putRow l D ca ad v to (xA v key.toNatClampNeg) (xB v key.toNatClampNeg) hk2) hI wk_252 wk_249 wk_251 wq_11 ⟨rfl, by decide +kernel⟩ rfl ⟨rfl, rfl⟩ ⟨Nat.le_of_ble_eq_true rfl, Nat.le_of_ble_eq_true rfl⟩ (Nat.le_of_ble_eq_true rfl) dX0_rekey_89 ⟨Nat.zero_le _, Nat.zero_le _⟩ rfl (fun H locs hI => ?_)
            refine lv_aload_n cx.1 cx.2.1 dX0_rekey_92 rfl (lv_at hl 0 rfl) ?_
            refine lv_iload_n cx.1 cx.2.1 dX0_rekey_93 rfl (lv_at hl 1 rfl) ?_
            refine xc_v 1 cx (hl.1.trans hml.symm) (kX0_removeRow l D ca ad (xPut v to (xA v key.toNatClampNeg) (xB v key.toNatClampNeg)) key hk) hI wk_303 wk_300 wk_302 wq_16 ⟨rfl, by decide +kernel⟩ rfl ⟨rfl, rfl⟩ ⟨Nat.le_of_ble_eq_true rfl, Nat.le_of_ble_eq_true rfl⟩ (Nat.le_of_ble_eq_true rfl) dX0_rekey_94 ⟨Nat.zero_le _, Nat.zero_le _⟩ rfl (fun H locs hI => ?_)
            refine lv_aload_n cx.1 cx.2.1 dX0_rekey_97 rfl (lv_at hl 0 rfl) ?_
            refine lv_iload_n cx.1 cx.2.1 dX0_rekey_98 rfl (lv_at hl 1 rfl) ?_
            refine lv_iload_n cx.1 cx.2.1 dX0_rekey_99 rfl (lv_at hl 2 rfl) ?_
            refine k_mmin cx (hml.trans hl.1.symm) (cx.2.2.2.1 _ wk_314) (Nat.le_of_ble_eq_true rfl) (Nat.le_of_ble_eq_true rfl) (Nat.zero_le _) (Nat.zero_le _) dX0_rekey_100 ?_
            refine k_top (y := kMin key to) rfl ?_
            refine xc_v 1 cx (hl.1.trans hml.symm) (kX0_followWrite l D ca ad (xPut (xPut v to (xA v key.toNatClampNeg) (xB v key.toNatClampNeg)) key (-1) (-1)) (kMin key to) (kMin_in hk hk2) h0) hI wk_256 wk_253 wk_255 wq_12 ⟨rfl, by decide +kernel⟩ rfl ⟨rfl, rfl⟩ ⟨Nat.le_of_ble_eq_true rfl, Nat.le_of_ble_eq_true rfl⟩ (Nat.le_of_ble_eq_true rfl) dX0_rekey_103 ⟨Nat.zero_le _, Nat.zero_le _⟩ rfl (fun H locs hI => ?_)
            refine lv_aload_n cx.1 cx.2.1 dX0_rekey_106 rfl (lv_at hl 0 rfl) ?_
            refine lv_iload_n cx.1 cx.2.1 dX0_rekey_107 rfl (lv_at hl 1 rfl) ?_
            refine lv_iload_n cx.1 cx.2.1 dX0_rekey_108 rfl (lv_at hl 2 rfl) ?_
            refine k_mmax cx (hml.trans hl.1.symm) (cx.2.2.2.1 _ wk_317) (Nat.le_of_ble_eq_true rfl) (Nat.le_of_ble_eq_true rfl) (Nat.zero_le _) (Nat.zero_le _) dX0_rekey_109 ?_
            refine k_top (y := kMax key to) rfl ?_
            refine xc_v 1 cx (hl.1.trans hml.symm) (kX0_followWrite l D ca ad (xFollow (xPut (xPut v to (xA v key.toNatClampNeg) (xB v key.toNatClampNeg)) key (-1) (-1)) (kMin key to)) (kMax key to) (kMax_in hk hk2) (xFollow_c h0)) hI wk_256 wk_253 wk_255 wq_12 ⟨rfl, by decide +kernel⟩ rfl ⟨rfl, rfl⟩ ⟨Nat.le_of_ble_eq_true rfl, Nat.le_of_ble_eq_true rfl⟩ (Nat.le_of_ble_eq_true rfl) dX0_rekey_112 ⟨Nat.zero_le _, Nat.zero_le _⟩ rfl (fun H locs hI => ?_)
            exact ke_x (by simp [xRekey, xfRekey, c_1, c_2, c_3, c_4, c_5]) (ke_v cx hr hlk hI (Nat.zero_le _) (Nat.zero_le _) dX0_rekey_115 rfl (congrArg (xw ad ca) (by simp [xRekey, xfRekey, c_1, c_2, c_3, c_4, c_5])))
          · exact kt_ise cx hlS hlk htab hE hI (hl.1.trans hml.symm) (show (96, "there is a row with the other key") ∈ kstrs by decide) dX0_rekey_65 dX0_rekey_68 dX0_rekey_69 dX0_rekey_71 dX0_rekey_74 ⟨Nat.le_of_ble_eq_true rfl, Nat.le_of_ble_eq_true rfl⟩ ⟨Nat.le_of_ble_eq_true rfl, Nat.le_of_ble_eq_true rfl⟩ (Or.inr (Or.inr (Or.inr (⟨(by simp [xRekey, xfRekey, c_1, c_2, c_3, c_4, c_5]), rfl⟩))))
        · exact kt_nse cx hlS hlk htab hE hI (hl.1.trans hml.symm) (show (94, "there is no row with the first key") ∈ kstrs by decide) dX0_rekey_47 dX0_rekey_50 dX0_rekey_51 dX0_rekey_53 dX0_rekey_56 ⟨Nat.le_of_ble_eq_true rfl, Nat.le_of_ble_eq_true rfl⟩ ⟨Nat.le_of_ble_eq_true rfl, Nat.le_of_ble_eq_true rfl⟩ (Or.inr (Or.inr (Or.inl (⟨(by simp [xRekey, xfRekey, c_1, c_2, c_3, c_4]), rfl⟩))))
      · exact kt_iae cx hlS hlk htab hE hI (hl.1.trans hml.symm) (show (92, "both keys are the same") ∈ kstrs by decide) dX0_rekey_29 dX0_rekey_32 dX0_rekey_33 dX0_rekey_35 dX0_rekey_38 ⟨Nat.le_of_ble_eq_true rfl, Nat.le_of_ble_eq_true rfl⟩ ⟨Nat.le_of_ble_eq_true rfl, Nat.le_of_ble_eq_true rfl⟩ (Or.inr (Or.inl (⟨(by simp [xRekey, xfRekey, c_1, c_2, c_3]), rfl⟩)))
    · exact kt_iob cx hlS hlk htab hE hI (hl.1.trans hml.symm) (show (50, "there is no such key") ∈ kstrs by decide) dX0_rekey_14 dX0_rekey_17 dX0_rekey_18 dX0_rekey_20 dX0_rekey_23 ⟨Nat.le_of_ble_eq_true rfl, Nat.le_of_ble_eq_true rfl⟩ ⟨Nat.le_of_ble_eq_true rfl, Nat.le_of_ble_eq_true rfl⟩ (Or.inl (⟨(by simp [xRekey, xfRekey, c_1, c_2]), rfl⟩))
set_option maxHeartbeats 4000000 in
set_option maxRecDepth 100000 in
theorem kX0_start (l : Launch) (D : va_G) (ca : Nat → ClassId) (ad : Nat → Nat) (v : XS) (al pa : Int32) (hlS : l.stackTraces = false) : CX l yX0_start cX0_start 3 none (KR1 6 82) D ca (xw ad ca v) [.ref (ad 0), .int al, .int pa] (xfStart v al pa = 0) none (xw ad ca (xStart v al pa)) (fun E => (xfStart v al pa = 1 ∧ E = "java/lang/IllegalArgumentException") ∨ (xfStart v al pa = 2 ∧ E = "java/lang/IllegalStateException")) := by
  refine CX.of (by decide) (Nat.le_of_ble_eq_true rfl) ?_
  intro p e s m below meth c A ls cx hml hr hlk htab hE hI hl
  have hl : lv_has ls 3 [(0, .ref (ad 0)), (1, .int al), (2, .int pa)] := hl
  refine lv_iload_n cx.1 cx.2.1 dX0_start_0 rfl (lv_at hl 1 rfl) ?_
  refine lv_iconst (v := 0) cx.1 cx.2.1 dX0_start_1 (by decide) ?_
  refine lv_iconst (v := 2) cx.1 cx.2.1 dX0_start_2 (by decide) ?_
  refine ks_i 3 cx (hl.1.trans hml.symm) (kX0_isWithin l D ca al 0 2) hI wk_143 wk_141 wk_142 wk_1 ⟨by decide, by decide, by decide +kernel⟩ rfl ⟨rfl, rfl⟩ ⟨Nat.le_of_ble_eq_true rfl, Nat.le_of_ble_eq_true rfl⟩ (Nat.le_of_ble_eq_true rfl) dX0_start_3 ⟨Nat.zero_le _, Nat.zero_le _⟩ rfl (fun H locs hI => ?_)
  refine kb_eq (tgt := 20) cx dX0_start_6 (by decide) (fun c_1 => ?_) (fun c_1 => ?_)
  · exact kt_iae cx hlS hlk htab hE hI (hl.1.trans hml.symm) (show (111, "alteration or parameter is out of range") ∈ kstrs by decide) dX0_start_20 dX0_start_23 dX0_start_24 dX0_start_26 dX0_start_29 ⟨Nat.le_of_ble_eq_true rfl, Nat.le_of_ble_eq_true rfl⟩ ⟨Nat.le_of_ble_eq_true rfl, Nat.le_of_ble_eq_true rfl⟩ (Or.inl (⟨(by simp [xStart, xfStart, c_1]), rfl⟩))
  · refine lv_iload_n cx.1 cx.2.1 dX0_start_9 rfl (lv_at hl 2 rfl) ?_
    refine lv_iconst (v := 0) cx.1 cx.2.1 dX0_start_10 (by decide) ?_
    refine lv_sipush (v := 999) cx.1 cx.2.1 dX0_start_11 (by decide) ?_
    refine ks_i 3 cx (hl.1.trans hml.symm) (kX0_isWithin l D ca pa 0 999) hI wk_143 wk_141 wk_142 wk_1 ⟨by decide, by decide, by decide +kernel⟩ rfl ⟨rfl, rfl⟩ ⟨Nat.le_of_ble_eq_true rfl, Nat.le_of_ble_eq_true rfl⟩ (Nat.le_of_ble_eq_true rfl) dX0_start_14 ⟨Nat.zero_le _, Nat.zero_le _⟩ rfl (fun H locs hI => ?_)
    refine kb_ne (tgt := 30) cx dX0_start_17 (by decide) (fun c_2 => ?_) (fun c_2 => ?_)
    · refine lv_aload_n cx.1 cx.2.1 dX0_start_30 rfl (lv_at hl 0 rfl) ?_
      refine xg_6 cx hI dX0_start_31 ?_
      refine lv_if_eq (tgt := 47) cx.1 cx.2.1 dX0_start_34 (by decide) (fun c_3 => ?_) (fun c_3 => ?_)
      · refine lv_aload_n cx.1 cx.2.1 dX0_start_47 rfl (lv_at hl 0 rfl) ?_
        refine lv_iload_n cx.1 cx.2.1 dX0_start_48 rfl (lv_at hl 1 rfl) ?_
        refine xp_8 cx hI dX0_start_49 (fun H locs hI => ?_)
        refine lv_aload_n cx.1 cx.2.1 dX0_start_52 rfl (lv_at hl 0 rfl) ?_
        refine lv_iload_n cx.1 cx.2.1 dX0_start_53 rfl (lv_at hl 2 rfl) ?_
        refine xp_9 cx hI dX0_start_54 (fun H locs hI => ?_)
        refine lv_aload_n cx.1 cx.2.1 dX0_start_57 rfl (lv_at hl 0 rfl) ?_
        refine lv_iconst (v := 0) cx.1 cx.2.1 dX0_start_58 (by decide) ?_
        refine xp_7 cx hI dX0_start_59 (fun H locs hI => ?_)
        refine lv_aload_n cx.1 cx.2.1 dX0_start_62 rfl (lv_at hl 0 rfl) ?_
        refine lv_iconst (v := 1) cx.1 cx.2.1 dX0_start_63 (by decide) ?_
        refine xp_6 cx hI dX0_start_64 (fun H locs hI => ?_)
        exact ke_x (by simp [xStart, xfStart, c_1, c_2, c_3]) (ke_v cx hr hlk hI (Nat.zero_le _) (Nat.zero_le _) dX0_start_67 rfl (congrArg (xw ad ca) (by simp [xStart, xfStart, c_1, c_2, c_3])))
      · exact kt_ise cx hlS hlk htab hE hI (hl.1.trans hml.symm) (show (113, "the phase is not IDLE") ∈ kstrs by decide) dX0_start_37 dX0_start_40 dX0_start_41 dX0_start_43 dX0_start_46 ⟨Nat.le_of_ble_eq_true rfl, Nat.le_of_ble_eq_true rfl⟩ ⟨Nat.le_of_ble_eq_true rfl, Nat.le_of_ble_eq_true rfl⟩ (Or.inr (⟨(by simp [xStart, xfStart, c_1, c_2, c_3]), rfl⟩))
    · exact kt_iae cx hlS hlk htab hE hI (hl.1.trans hml.symm) (show (111, "alteration or parameter is out of range") ∈ kstrs by decide) dX0_start_20 dX0_start_23 dX0_start_24 dX0_start_26 dX0_start_29 ⟨Nat.le_of_ble_eq_true rfl, Nat.le_of_ble_eq_true rfl⟩ ⟨Nat.le_of_ble_eq_true rfl, Nat.le_of_ble_eq_true rfl⟩ (Or.inl (⟨(by simp [xStart, xfStart, c_1, c_2]), rfl⟩))
set_option maxHeartbeats 4000000 in
set_option maxRecDepth 100000 in
theorem kX0_setPace (l : Launch) (D : va_G) (ca : Nat → ClassId) (ad : Nat → Nat) (v : XS) (ch lag : Int32) (hlS : l.stackTraces = false) : CX l yX0_setPace cX0_setPace 3 none (KR1 6 82) D ca (xw ad ca v) [.ref (ad 0), .int ch, .int lag] (xfPace ch lag = 0) none (xw ad ca (xUl (xUk v ch) lag)) (fun E => (xfPace ch lag = 1 ∧ E = "java/lang/IllegalArgumentException")) := by
  refine CX.of (by decide) (Nat.le_of_ble_eq_true rfl) ?_
  intro p e s m below meth c A ls cx hml hr hlk htab hE hI hl
  have hl : lv_has ls 3 [(0, .ref (ad 0)), (1, .int ch), (2, .int lag)] := hl
  refine lv_iload_n cx.1 cx.2.1 dX0_setPace_0 rfl (lv_at hl 1 rfl) ?_
  refine lv_iconst (v := 1) cx.1 cx.2.1 dX0_setPace_1 (by decide) ?_
  refine lv_bipush (v := 40) cx.1 cx.2.1 dX0_setPace_2 (by decide) ?_
  refine ks_i 3 cx (hl.1.trans hml.symm) (kX0_isWithin l D ca ch 1 40) hI wk_143 wk_141 wk_142 wk_1 ⟨by decide, by decide, by decide +kernel⟩ rfl ⟨rfl, rfl⟩ ⟨Nat.le_of_ble_eq_true rfl, Nat.le_of_ble_eq_true rfl⟩ (Nat.le_of_ble_eq_true rfl) dX0_setPace_4 ⟨Nat.zero_le _, Nat.zero_le _⟩ rfl (fun H locs hI => ?_)
  refine kb_eq (tgt := 20) cx dX0_setPace_7 (by decide) (fun c_1 => ?_) (fun c_1 => ?_)
  · exact kt_iae cx hlS hlk htab hE hI (hl.1.trans hml.symm) (show (124, "chunk or lag is out of range") ∈ kstrs by decide) dX0_setPace_20 dX0_setPace_23 dX0_setPace_24 dX0_setPace_26 dX0_setPace_29 ⟨Nat.le_of_ble_eq_true rfl, Nat.le_of_ble_eq_true rfl⟩ ⟨Nat.le_of_ble_eq_true rfl, Nat.le_of_ble_eq_true rfl⟩ (⟨(by simp [xfPace, c_1]), rfl⟩)
  · refine lv_iload_n cx.1 cx.2.1 dX0_setPace_10 rfl (lv_at hl 2 rfl) ?_
    refine lv_iconst (v := 0) cx.1 cx.2.1 dX0_setPace_11 (by decide) ?_
    refine lv_bipush (v := 100) cx.1 cx.2.1 dX0_setPace_12 (by decide) ?_
    refine ks_i 3 cx (hl.1.trans hml.symm) (kX0_isWithin l D ca lag 0 100) hI wk_143 wk_141 wk_142 wk_1 ⟨by decide, by decide, by decide +kernel⟩ rfl ⟨rfl, rfl⟩ ⟨Nat.le_of_ble_eq_true rfl, Nat.le_of_ble_eq_true rfl⟩ (Nat.le_of_ble_eq_true rfl) dX0_setPace_14 ⟨Nat.zero_le _, Nat.zero_le _⟩ rfl (fun H locs hI => ?_)
    refine kb_ne (tgt := 30) cx dX0_setPace_17 (by decide) (fun c_2 => ?_) (fun c_2 => ?_)
    · refine lv_aload_n cx.1 cx.2.1 dX0_setPace_30 rfl (lv_at hl 0 rfl) ?_
      refine lv_iload_n cx.1 cx.2.1 dX0_setPace_31 rfl (lv_at hl 1 rfl) ?_
      refine xp_10 cx hI dX0_setPace_32 (fun H locs hI => ?_)
      refine lv_aload_n cx.1 cx.2.1 dX0_setPace_35 rfl (lv_at hl 0 rfl) ?_
      refine lv_iload_n cx.1 cx.2.1 dX0_setPace_36 rfl (lv_at hl 2 rfl) ?_
      refine xp_11 cx hI dX0_setPace_37 (fun H locs hI => ?_)
      exact ke_x (by simp [xfPace, c_1, c_2]) (ke_v cx hr hlk hI (Nat.zero_le _) (Nat.zero_le _) dX0_setPace_40 rfl rfl)
    · exact kt_iae cx hlS hlk htab hE hI (hl.1.trans hml.symm) (show (124, "chunk or lag is out of range") ∈ kstrs by decide) dX0_setPace_20 dX0_setPace_23 dX0_setPace_24 dX0_setPace_26 dX0_setPace_29 ⟨Nat.le_of_ble_eq_true rfl, Nat.le_of_ble_eq_true rfl⟩ ⟨Nat.le_of_ble_eq_true rfl, Nat.le_of_ble_eq_true rfl⟩ (⟨(by simp [xfPace, c_1, c_2]), rfl⟩)
set_option maxHeartbeats 4000000 in
set_option maxRecDepth 100000 in
theorem kX0_tick (l : Launch) (D : va_G) (ca : Nat → ClassId) (ad : Nat → Nat) (v : XS) (lag : Int32) (mk n cn nn : Nat) (hm : xm v = nI mk) (he : ¬ (40 : Int32) ≤ xm v → xCopyE v = nI (mk + n)) (hle : ¬ (40 : Int32) ≤ xm v → mk + n ≤ 40) (hc : kMin (xk v) (xc v) = nI cn) (hn : xc v = nI nn) (hcn : cn ≤ nn) (hn2 : nn ≤ 1024) (hN : ∀ j, j < cn → vp_in (xN v (nI j).toNatClampNeg) 40) (hlS : l.stackTraces = false) : CX l yX0_tick cX0_tick 2 (some .int) (KR1 6 131) D ca (xw ad ca v) [.ref (ad 0), .int lag] (xfTick v lag = 0) (some (.int (if lag ≤ xl v then (if 40 ≤ xm v then kMin (xk v) (xc v) else xCopyE v - xm v) else 0))) (xw ad ca (if lag ≤ xl v then (if 40 ≤ xm v then xPlay v cn else xCopy v mk n) else v)) (fun E => (xfTick v lag = 1 ∧ E = "java/lang/IllegalArgumentException") ∨ (xfTick v lag = 2 ∧ E = "java/lang/IllegalStateException")) := by
  refine CX.of (by decide) (Nat.le_of_ble_eq_true rfl) ?_
  intro p e s m below meth c A ls cx hml hr hlk htab hE hI hl
  have hl : lv_has ls 2 [(0, .ref (ad 0)), (1, .int lag)] := hl
  refine lv_iload_n cx.1 cx.2.1 dX0_tick_0 rfl (lv_at hl 1 rfl) ?_
  refine lv_iconst (v := 0) cx.1 cx.2.1 dX0_tick_1 (by decide) ?_
  refine lv_sipush (v := 1000) cx.1 cx.2.1 dX0_tick_2 (by decide) ?_
  refine ks_i 3 cx (hl.1.trans hml.symm) (kX0_isWithin l D ca lag 0 1000) hI wk_143 wk_141 wk_142 wk_1 ⟨by decide, by decide, by decide +kernel⟩ rfl ⟨rfl, rfl⟩ ⟨Nat.le_of_ble_eq_true rfl, Nat.le_of_ble_eq_true rfl⟩ (Nat.le_of_ble_eq_true rfl) dX0_tick_5 ⟨Nat.zero_le _, Nat.zero_le _⟩ rfl (fun H locs hI => ?_)
  refine kb_ne (tgt := 21) cx dX0_tick_8 (by decide) (fun c_1 => ?_) (fun c_1 => ?_)
  · refine lv_aload_n cx.1 cx.2.1 dX0_tick_21 rfl (lv_at hl 0 rfl) ?_
    refine xg_6 cx hI dX0_tick_22 ?_
    refine lv_iconst (v := 1) cx.1 cx.2.1 dX0_tick_25 (by decide) ?_
    refine lv_icmp_eq (tgt := 39) cx.1 cx.2.1 dX0_tick_26 (by decide) (fun c_2 => ?_) (fun c_2 => ?_)
    · refine lv_iload_n cx.1 cx.2.1 dX0_tick_39 rfl (lv_at hl 1 rfl) ?_
      refine lv_aload_n cx.1 cx.2.1 dX0_tick_40 rfl (lv_at hl 0 rfl) ?_
      refine xg_11 cx hI dX0_tick_41 ?_
      refine lv_icmp_le (tgt := 49) cx.1 cx.2.1 dX0_tick_44 (by decide) (fun c_3 => ?_) (fun c_3 => ?_)
      · refine lv_aload_n cx.1 cx.2.1 dX0_tick_49 rfl (lv_at hl 0 rfl) ?_
        refine xg_7 cx hI dX0_tick_50 ?_
        refine lv_bipush (v := 40) cx.1 cx.2.1 dX0_tick_53 (by decide) ?_
        refine lv_icmp_ge (tgt := 63) cx.1 cx.2.1 dX0_tick_55 (by decide) (fun c_4 => ?_) (fun c_4 => ?_)
        · refine lv_aload_n cx.1 cx.2.1 dX0_tick_63 rfl (lv_at hl 0 rfl) ?_
          refine lv_aload_n cx.1 cx.2.1 dX0_tick_64 rfl (lv_at hl 0 rfl) ?_
          refine xg_10 cx hI dX0_tick_65 ?_
          refine lv_aload_n cx.1 cx.2.1 dX0_tick_68 rfl (lv_at hl 0 rfl) ?_
          refine xg_5 cx hI dX0_tick_69 ?_
          refine k_mmin cx (hml.trans hl.1.symm) (cx.2.2.2.1 _ wk_314) (Nat.le_of_ble_eq_true rfl) (Nat.le_of_ble_eq_true rfl) (Nat.zero_le _) (Nat.zero_le _) dX0_tick_72 ?_
          refine k_top (y := kMin (xk v) (xc v)) rfl ?_
          refine xc_i 1 cx (hl.1.trans hml.symm) (kX0_playNotes l D ca ad v (kMin (xk v) (xc v)) cn nn hc hn hcn hn2 hN) hI wk_353 wk_350 wk_352 wq_18 ⟨rfl, by decide +kernel⟩ rfl ⟨rfl, rfl⟩ ⟨Nat.le_of_ble_eq_true rfl, Nat.le_of_ble_eq_true rfl⟩ (Nat.le_of_ble_eq_true rfl) dX0_tick_75 ⟨Nat.zero_le _, Nat.zero_le _⟩ rfl (fun H locs hI => ?_)
          exact ke_x (by simp [hc, xfTick, c_1, c_2, c_3, c_4]) (ke_i cx hr hlk hI (Nat.zero_le _) (Nat.zero_le _) dX0_tick_78 (congrArg (fun z => some (Value.int z)) (by simp [hc, xfTick, c_1, c_2, c_3, c_4])) (congrArg (xw ad ca) (by simp [hc, xfTick, c_1, c_2, c_3, c_4])))
        · refine lv_aload_n cx.1 cx.2.1 dX0_tick_58 rfl (lv_at hl 0 rfl) ?_
          refine xc_i 0 cx (hl.1.trans hml.symm) (kX0_copyChunk l D ca ad v mk n hm (he c_4) (hle c_4)) hI wk_349 wk_346 wk_348 wq_17 ⟨rfl, by decide +kernel⟩ rfl ⟨rfl, rfl⟩ ⟨Nat.le_of_ble_eq_true rfl, Nat.le_of_ble_eq_true rfl⟩ (Nat.le_of_ble_eq_true rfl) dX0_tick_59 ⟨Nat.zero_le _, Nat.zero_le _⟩ rfl (fun H locs hI => ?_)
          exact ke_x (by simp [hc, xfTick, c_1, c_2, c_3, c_4]) (ke_i cx hr hlk hI (Nat.zero_le _) (Nat.zero_le _) dX0_tick_62 (congrArg (fun z => some (Value.int z)) (by simp [hc, xfTick, c_1, c_2, c_3, c_4])) (congrArg (xw ad ca) (by simp [hc, xfTick, c_1, c_2, c_3, c_4])))
      · refine lv_iconst (v := 0) cx.1 cx.2.1 dX0_tick_47 (by decide) ?_
        exact ke_x (by simp [hc, xfTick, c_1, c_2, c_3]) (ke_i cx hr hlk hI (Nat.zero_le _) (Nat.zero_le _) dX0_tick_48 (congrArg (fun z => some (Value.int z)) (by simp [hc, xfTick, c_1, c_2, c_3])) (congrArg (xw ad ca) (by simp [hc, xfTick, c_1, c_2, c_3])))
    · exact kt_ise cx hlS hlk htab hE hI (hl.1.trans hml.symm) (show (128, "the phase is not COPYING") ∈ kstrs by decide) dX0_tick_29 dX0_tick_32 dX0_tick_33 dX0_tick_35 dX0_tick_38 ⟨Nat.le_of_ble_eq_true rfl, Nat.le_of_ble_eq_true rfl⟩ ⟨Nat.le_of_ble_eq_true rfl, Nat.le_of_ble_eq_true rfl⟩ (Or.inr (⟨(by simp [hc, xfTick, c_1, c_2]), rfl⟩))
  · exact kt_iae cx hlS hlk htab hE hI (hl.1.trans hml.symm) (show (126, "lag is out of range") ∈ kstrs by decide) dX0_tick_11 dX0_tick_14 dX0_tick_15 dX0_tick_17 dX0_tick_20 ⟨Nat.le_of_ble_eq_true rfl, Nat.le_of_ble_eq_true rfl⟩ ⟨Nat.le_of_ble_eq_true rfl, Nat.le_of_ble_eq_true rfl⟩ (Or.inl (⟨(by simp [hc, xfTick, c_1]), rfl⟩))
set_option maxHeartbeats 4000000 in
set_option maxRecDepth 100000 in
theorem kX0_cutOver (l : Launch) (D : va_G) (ca : Nat → ClassId) (ad : Nat → Nat) (v : XS) (most : Int32) (nn : Nat) (hn : xc v = nI nn) (hn2 : nn ≤ 1024) (hN : ∀ j, j < nn → vp_in (xN v (nI j).toNatClampNeg) 40) (hlS : l.stackTraces = false) : CX l yX0_cutOver cX0_cutOver 3 (some .int) (KR1 6 130) D ca (xw ad ca v) [.ref (ad 0), .int most] (xfCut v most = 0) (some (.int (xc v))) (xw ad ca (xUp (xPlay v nn) 2)) (fun E => (xfCut v most = 1 ∧ E = "java/lang/IllegalArgumentException") ∨ (xfCut v most = 2 ∧ E = "java/lang/IllegalStateException")) := by
  refine CX.of (by decide) (Nat.le_of_ble_eq_true rfl) ?_
  intro p e s m below meth c A ls cx hml hr hlk htab hE hI hl
  have hl : lv_has ls 3 [(0, .ref (ad 0)), (1, .int most)] := hl
  refine lv_iload_n cx.1 cx.2.1 dX0_cutOver_0 rfl (lv_at hl 1 rfl) ?_
  refine lv_iconst (v := 0) cx.1 cx.2.1 dX0_cutOver_1 (by decide) ?_
  refine lv_sipush (v := 1000) cx.1 cx.2.1 dX0_cutOver_2 (by decide) ?_
  refine ks_i 3 cx (hl.1.trans hml.symm) (kX0_isWithin l D ca most 0 1000) hI wk_143 wk_141 wk_142 wk_1 ⟨by decide, by decide, by decide +kernel⟩ rfl ⟨rfl, rfl⟩ ⟨Nat.le_of_ble_eq_true rfl, Nat.le_of_ble_eq_true rfl⟩ (Nat.le_of_ble_eq_true rfl) dX0_cutOver_5 ⟨Nat.zero_le _, Nat.zero_le _⟩ rfl (fun H locs hI => ?_)
  refine kb_ne (tgt := 21) cx dX0_cutOver_8 (by decide) (fun c_1 => ?_) (fun c_1 => ?_)
  · refine lv_aload_n cx.1 cx.2.1 dX0_cutOver_21 rfl (lv_at hl 0 rfl) ?_
    refine xg_6 cx hI dX0_cutOver_22 ?_
    refine lv_iconst (v := 1) cx.1 cx.2.1 dX0_cutOver_25 (by decide) ?_
    refine lv_icmp_ne (tgt := 46) cx.1 cx.2.1 dX0_cutOver_26 (by decide) (fun c_2 => ?_) (fun c_2 => ?_)
    · exact kt_ise cx hlS hlk htab hE hI (hl.1.trans hml.symm) (show (142, "not COPYING, the mark is not 40, or more notes") ∈ kstrs by decide) dX0_cutOver_46 dX0_cutOver_49 dX0_cutOver_50 dX0_cutOver_52 dX0_cutOver_55 ⟨Nat.le_of_ble_eq_true rfl, Nat.le_of_ble_eq_true rfl⟩ ⟨Nat.le_of_ble_eq_true rfl, Nat.le_of_ble_eq_true rfl⟩ (Or.inr (⟨(by simp [hn.symm, xfCut, c_1, c_2]), rfl⟩))
    · refine lv_aload_n cx.1 cx.2.1 dX0_cutOver_29 rfl (lv_at hl 0 rfl) ?_
      refine xg_7 cx hI dX0_cutOver_30 ?_
      refine lv_bipush (v := 40) cx.1 cx.2.1 dX0_cutOver_33 (by decide) ?_
      refine lv_icmp_lt (tgt := 46) cx.1 cx.2.1 dX0_cutOver_35 (by decide) (fun c_3 => ?_) (fun c_3 => ?_)
      · exact kt_ise cx hlS hlk htab hE hI (hl.1.trans hml.symm) (show (142, "not COPYING, the mark is not 40, or more notes") ∈ kstrs by decide) dX0_cutOver_46 dX0_cutOver_49 dX0_cutOver_50 dX0_cutOver_52 dX0_cutOver_55 ⟨Nat.le_of_ble_eq_true rfl, Nat.le_of_ble_eq_true rfl⟩ ⟨Nat.le_of_ble_eq_true rfl, Nat.le_of_ble_eq_true rfl⟩ (Or.inr (⟨(by simp [hn.symm, xfCut, c_1, c_2, c_3]), rfl⟩))
      · refine lv_aload_n cx.1 cx.2.1 dX0_cutOver_38 rfl (lv_at hl 0 rfl) ?_
        refine xg_5 cx hI dX0_cutOver_39 ?_
        refine lv_iload_n cx.1 cx.2.1 dX0_cutOver_42 rfl (lv_at hl 1 rfl) ?_
        refine lv_icmp_le (tgt := 56) cx.1 cx.2.1 dX0_cutOver_43 (by decide) (fun c_4 => ?_) (fun c_4 => ?_)
        · refine lv_aload_n cx.1 cx.2.1 dX0_cutOver_56 rfl (lv_at hl 0 rfl) ?_
          refine lv_aload_n cx.1 cx.2.1 dX0_cutOver_57 rfl (lv_at hl 0 rfl) ?_
          refine xg_5 cx hI dX0_cutOver_58 ?_
          refine xc_i 1 cx (hl.1.trans hml.symm) (kX0_playNotes l D ca ad v (xc v) nn nn hn hn (Nat.le_refl _) hn2 hN) hI wk_353 wk_350 wk_352 wq_18 ⟨rfl, by decide +kernel⟩ rfl ⟨rfl, rfl⟩ ⟨Nat.le_of_ble_eq_true rfl, Nat.le_of_ble_eq_true rfl⟩ (Nat.le_of_ble_eq_true rfl) dX0_cutOver_61 ⟨Nat.zero_le _, Nat.zero_le _⟩ rfl (fun H locs hI => ?_)
          refine lv_istore_n (lv' := [(2, .int (nI nn)), (0, .ref (ad 0)), (1, .int most)]) cx.1 cx.2.1 dX0_cutOver_64 rfl hl (by decide) rfl (fun ls hl => ?_)
          refine lv_aload_n cx.1 cx.2.1 dX0_cutOver_65 rfl (lv_at hl 1 rfl) ?_
          refine lv_iconst (v := 2) cx.1 cx.2.1 dX0_cutOver_66 (by decide) ?_
          refine xp_6 cx hI dX0_cutOver_67 (fun H locs hI => ?_)
          refine lv_iload_n cx.1 cx.2.1 dX0_cutOver_70 rfl (lv_at hl 0 rfl) ?_
          exact ke_x (by simp [hn.symm, xfCut, c_1, c_2, c_3, c_4]) (ke_i cx hr hlk hI (Nat.zero_le _) (Nat.zero_le _) dX0_cutOver_71 (congrArg (fun z => some (Value.int z)) (by simp [hn.symm, xfCut, c_1, c_2, c_3, c_4])) rfl)
        · exact kt_ise cx hlS hlk htab hE hI (hl.1.trans hml.symm) (show (142, "not COPYING, the mark is not 40, or more notes") ∈ kstrs by decide) dX0_cutOver_46 dX0_cutOver_49 dX0_cutOver_50 dX0_cutOver_52 dX0_cutOver_55 ⟨Nat.le_of_ble_eq_true rfl, Nat.le_of_ble_eq_true rfl⟩ ⟨Nat.le_of_ble_eq_true rfl, Nat.le_of_ble_eq_true rfl⟩ (Or.inr (⟨(by simp [hn.symm, xfCut, c_1, c_2, c_3, c_4]), rfl⟩))
  · exact kt_iae cx hlS hlk htab hE hI (hl.1.trans hml.symm) (show (140, "most is out of range") ∈ kstrs by decide) dX0_cutOver_11 dX0_cutOver_14 dX0_cutOver_15 dX0_cutOver_17 dX0_cutOver_20 ⟨Nat.le_of_ble_eq_true rfl, Nat.le_of_ble_eq_true rfl⟩ ⟨Nat.le_of_ble_eq_true rfl, Nat.le_of_ble_eq_true rfl⟩ (Or.inl (⟨(by simp [hn.symm, xfCut, c_1]), rfl⟩))
set_option maxHeartbeats 4000000 in
set_option maxRecDepth 100000 in
theorem kX0_undo (l : Launch) (D : va_G) (ca : Nat → ClassId) (ad : Nat → Nat) (v : XS) (hlS : l.stackTraces = false) : CX l yX0_undo cX0_undo 1 none (KR1 6 82) D ca (xw ad ca v) [.ref (ad 0)] (xfUndo v = 0) none (xw ad ca (xUp v 1)) (fun E => (xfUndo v = 1 ∧ E = "java/lang/IllegalStateException")) := by
  refine CX.of (by decide) (Nat.le_of_ble_eq_true rfl) ?_
  intro p e s m below meth c A ls cx hml hr hlk htab hE hI hl
  have hl : lv_has ls 1 [(0, .ref (ad 0))] := hl
  refine lv_aload_n cx.1 cx.2.1 dX0_undo_0 rfl (lv_at hl 0 rfl) ?_
  refine xg_6 cx hI dX0_undo_1 ?_
  refine lv_iconst (v := 2) cx.1 cx.2.1 dX0_undo_4 (by decide) ?_
  refine lv_icmp_eq (tgt := 18) cx.1 cx.2.1 dX0_undo_5 (by decide) (fun c_1 => ?_) (fun c_1 => ?_)
  · refine lv_aload_n cx.1 cx.2.1 dX0_undo_18 rfl (lv_at hl 0 rfl) ?_
    refine lv_iconst (v := 1) cx.1 cx.2.1 dX0_undo_19 (by decide) ?_
    refine xp_6 cx hI dX0_undo_20 (fun H locs hI => ?_)
    exact ke_x (by simp [xfUndo, c_1]) (ke_v cx hr hlk hI (Nat.zero_le _) (Nat.zero_le _) dX0_undo_23 rfl rfl)
  · exact kt_ise cx hlS hlk htab hE hI (hl.1.trans hml.symm) (show (144, "the phase is not CUT") ∈ kstrs by decide) dX0_undo_8 dX0_undo_11 dX0_undo_12 dX0_undo_14 dX0_undo_17 ⟨Nat.le_of_ble_eq_true rfl, Nat.le_of_ble_eq_true rfl⟩ ⟨Nat.le_of_ble_eq_true rfl, Nat.le_of_ble_eq_true rfl⟩ (⟨(by simp [xfUndo, c_1]), rfl⟩)
set_option maxHeartbeats 4000000 in
set_option maxRecDepth 100000 in
theorem kX0_finish (l : Launch) (D : va_G) (ca : Nat → ClassId) (ad : Nat → Nat) (v : XS) (hlS : l.stackTraces = false) : CX l yX0_finish cX0_finish 2 (some .int) (KR1 6 82) D ca (xw ad ca v) [.ref (ad 0)] (xfUndo v = 0) (some (.int (xRemN v 40))) (xw ad ca (xEnd (xRem v 40))) (fun E => (xfUndo v = 1 ∧ E = "java/lang/IllegalStateException")) := by
  refine CX.of (by decide) (Nat.le_of_ble_eq_true rfl) ?_
  intro p e s m below meth c A ls cx hml hr hlk htab hE hI hl
  have hl : lv_has ls 2 [(0, .ref (ad 0))] := hl
  refine lv_aload_n cx.1 cx.2.1 dX0_finish_0 rfl (lv_at hl 0 rfl) ?_
  refine xg_6 cx hI dX0_finish_1 ?_
  refine lv_iconst (v := 2) cx.1 cx.2.1 dX0_finish_4 (by decide) ?_
  refine lv_icmp_eq (tgt := 18) cx.1 cx.2.1 dX0_finish_5 (by decide) (fun c_1 => ?_) (fun c_1 => ?_)
  · refine lv_aload_n cx.1 cx.2.1 dX0_finish_18 rfl (lv_at hl 0 rfl) ?_
    refine xc_i 0 cx (hl.1.trans hml.symm) (kX0_removeRowsWithoutShadow l D ca ad v) hI wk_384 wk_381 wk_383 wq_19 ⟨rfl, by decide +kernel⟩ rfl ⟨rfl, rfl⟩ ⟨Nat.le_of_ble_eq_true rfl, Nat.le_of_ble_eq_true rfl⟩ (Nat.le_of_ble_eq_true rfl) dX0_finish_19 ⟨Nat.zero_le _, Nat.zero_le _⟩ rfl (fun H locs hI => ?_)
    refine lv_istore_n (lv' := [(1, .int (xRemN v 40)), (0, .ref (ad 0))]) cx.1 cx.2.1 dX0_finish_22 rfl hl (by decide) rfl (fun ls hl => ?_)
    refine lv_aload_n cx.1 cx.2.1 dX0_finish_23 rfl (lv_at hl 1 rfl) ?_
    refine xc_v 0 cx (hl.1.trans hml.symm) (kX0_endChange l D ca ad (xRem v 40)) hI wk_388 wk_385 wk_387 wq_20 ⟨rfl, by decide +kernel⟩ rfl ⟨rfl, rfl⟩ ⟨Nat.le_of_ble_eq_true rfl, Nat.le_of_ble_eq_true rfl⟩ (Nat.le_of_ble_eq_true rfl) dX0_finish_24 ⟨Nat.zero_le _, Nat.zero_le _⟩ rfl (fun H locs hI => ?_)
    refine lv_iload_n cx.1 cx.2.1 dX0_finish_27 rfl (lv_at hl 0 rfl) ?_
    exact ke_x (by simp [xfUndo, c_1]) (ke_i cx hr hlk hI (Nat.zero_le _) (Nat.zero_le _) dX0_finish_28 rfl rfl)
  · exact kt_ise cx hlS hlk htab hE hI (hl.1.trans hml.symm) (show (144, "the phase is not CUT") ∈ kstrs by decide) dX0_finish_8 dX0_finish_11 dX0_finish_12 dX0_finish_14 dX0_finish_17 ⟨Nat.le_of_ble_eq_true rfl, Nat.le_of_ble_eq_true rfl⟩ ⟨Nat.le_of_ble_eq_true rfl, Nat.le_of_ble_eq_true rfl⟩ (⟨(by simp [xfUndo, c_1]), rfl⟩)
set_option maxHeartbeats 4000000 in
set_option maxRecDepth 100000 in
theorem kX0_giveUp (l : Launch) (D : va_G) (ca : Nat → ClassId) (ad : Nat → Nat) (v : XS) (hlS : l.stackTraces = false) : CX l yX0_giveUp cX0_giveUp 2 (some .int) (KR1 6 82) D ca (xw ad ca v) [.ref (ad 0)] (xfGive v = 0) (some (.int (xShRows v 40))) (xw ad ca (xEnd v)) (fun E => (xfGive v = 1 ∧ E = "java/lang/IllegalStateException")) := by
  refine CX.of (by decide) (Nat.le_of_ble_eq_true rfl) ?_
  intro p e s m below meth c A ls cx hml hr hlk htab hE hI hl
  have hl : lv_has ls 2 [(0, .ref (ad 0))] := hl
  refine lv_aload_n cx.1 cx.2.1 dX0_giveUp_0 rfl (lv_at hl 0 rfl) ?_
  refine xg_6 cx hI dX0_giveUp_1 ?_
  refine lv_iconst (v := 1) cx.1 cx.2.1 dX0_giveUp_4 (by decide) ?_
  refine lv_icmp_eq (tgt := 18) cx.1 cx.2.1 dX0_giveUp_5 (by decide) (fun c_1 => ?_) (fun c_1 => ?_)
  · refine lv_aload_n cx.1 cx.2.1 dX0_giveUp_18 rfl (lv_at hl 0 rfl) ?_
    refine xc_i 0 cx (hl.1.trans hml.symm) (kX0_shadowRows l D ca ad v) hI wk_96 wk_396 wk_94 wk_95 ⟨rfl, by decide +kernel⟩ rfl ⟨rfl, rfl⟩ ⟨Nat.le_of_ble_eq_true rfl, Nat.le_of_ble_eq_true rfl⟩ (Nat.le_of_ble_eq_true rfl) dX0_giveUp_19 ⟨Nat.zero_le _, Nat.zero_le _⟩ rfl (fun H locs hI => ?_)
    refine lv_istore_n (lv' := [(1, .int (xShRows v 40)), (0, .ref (ad 0))]) cx.1 cx.2.1 dX0_giveUp_22 rfl hl (by decide) rfl (fun ls hl => ?_)
    refine lv_aload_n cx.1 cx.2.1 dX0_giveUp_23 rfl (lv_at hl 1 rfl) ?_
    refine xc_v 0 cx (hl.1.trans hml.symm) (kX0_endChange l D ca ad v) hI wk_388 wk_385 wk_387 wq_20 ⟨rfl, by decide +kernel⟩ rfl ⟨rfl, rfl⟩ ⟨Nat.le_of_ble_eq_true rfl, Nat.le_of_ble_eq_true rfl⟩ (Nat.le_of_ble_eq_true rfl) dX0_giveUp_24 ⟨Nat.zero_le _, Nat.zero_le _⟩ rfl (fun H locs hI => ?_)
    refine lv_iload_n cx.1 cx.2.1 dX0_giveUp_27 rfl (lv_at hl 0 rfl) ?_
    exact ke_x (by simp [xfGive, c_1]) (ke_i cx hr hlk hI (Nat.zero_le _) (Nat.zero_le _) dX0_giveUp_28 rfl rfl)
  · exact kt_ise cx hlS hlk htab hE hI (hl.1.trans hml.symm) (show (128, "the phase is not COPYING") ∈ kstrs by decide) dX0_giveUp_8 dX0_giveUp_11 dX0_giveUp_12 dX0_giveUp_14 dX0_giveUp_17 ⟨Nat.le_of_ble_eq_true rfl, Nat.le_of_ble_eq_true rfl⟩ ⟨Nat.le_of_ble_eq_true rfl, Nat.le_of_ble_eq_true rfl⟩ (⟨(by simp [xfGive, c_1]), rfl⟩)
set_option maxHeartbeats 4000000 in
set_option maxRecDepth 100000 in
theorem kX0_row (l : Launch) (D : va_G) (ca : Nat → ClassId) (ad : Nat → Nat) (v : XS) (key : Int32) (hlS : l.stackTraces = false) : CX l yX0_row cX0_row 2 (some .int) (KR1 6 82) D ca (xw ad ca v) [.ref (ad 0), .int key] (xfKey key = 0) (some (.int (if xSeen v key then xRow v key else -1))) (xw ad ca v) (fun E => (xfKey key = 1 ∧ E = "java/lang/IndexOutOfBoundsException")) := by
  refine CX.of (by decide) (Nat.le_of_ble_eq_true rfl) ?_
  intro p e s m below meth c A ls cx hml hr hlk htab hE hI hl
  have hl : lv_has ls 2 [(0, .ref (ad 0)), (1, .int key)] := hl
  refine lv_iload_n cx.1 cx.2.1 dX0_row_0 rfl (lv_at hl 1 rfl) ?_
  refine ks_i 1 cx (hl.1.trans hml.symm) (kX0_isKey l D ca key) hI wk_140 wk_138 wk_139 wk_1 ⟨by decide, by decide, by decide +kernel⟩ rfl ⟨rfl, rfl⟩ ⟨Nat.le_of_ble_eq_true rfl, Nat.le_of_ble_eq_true rfl⟩ (Nat.le_of_ble_eq_true rfl) dX0_row_1 ⟨Nat.zero_le _, Nat.zero_le _⟩ rfl (fun H locs hI => ?_)
  refine kb_ne (tgt := 17) cx dX0_row_4 (by decide) (fun c_1 => ?_) (fun c_1 => ?_)
  · have hk : vp_in key 40 := xKey_in c_1
    refine lv_aload_n cx.1 cx.2.1 dX0_row_17 rfl (lv_at hl 0 rfl) ?_
    refine lv_iload_n cx.1 cx.2.1 dX0_row_18 rfl (lv_at hl 1 rfl) ?_
    refine xc_i 1 cx (hl.1.trans hml.symm) (kX0_isSeen l D ca ad v key hk) hI wk_72 wk_69 wk_71 wq_0 ⟨rfl, by decide +kernel⟩ rfl ⟨rfl, rfl⟩ ⟨Nat.le_of_ble_eq_true rfl, Nat.le_of_ble_eq_true rfl⟩ (Nat.le_of_ble_eq_true rfl) dX0_row_19 ⟨Nat.zero_le _, Nat.zero_le _⟩ rfl (fun H locs hI => ?_)
    refine kb_eq (tgt := 33) cx dX0_row_22 (by decide) (fun c_2 => ?_) (fun c_2 => ?_)
    · refine lv_iconst (v := (-1)) cx.1 cx.2.1 dX0_row_33 (by decide) ?_
      exact ke_x (by simp [xfKey, c_1, c_2]) (ke_i cx hr hlk hI (Nat.zero_le _) (Nat.zero_le _) dX0_row_34 (congrArg (fun z => some (Value.int z)) (by simp [xfKey, c_1, c_2])) rfl)
    · refine lv_aload_n cx.1 cx.2.1 dX0_row_25 rfl (lv_at hl 0 rfl) ?_
      refine lv_iload_n cx.1 cx.2.1 dX0_row_26 rfl (lv_at hl 1 rfl) ?_
      refine xc_i 1 cx (hl.1.trans hml.symm) (kX0_rowAsNumber l D ca ad v key hk) hI wk_299 wk_296 wk_298 wq_15 ⟨rfl, by decide +kernel⟩ rfl ⟨rfl, rfl⟩ ⟨Nat.le_of_ble_eq_true rfl, Nat.le_of_ble_eq_true rfl⟩ (Nat.le_of_ble_eq_true rfl) dX0_row_27 ⟨Nat.zero_le _, Nat.zero_le _⟩ rfl (fun H locs hI => ?_)
      refine lv_goto (tgt := 34) cx.1 cx.2.1 dX0_row_30 (by decide) ?_
      exact ke_x (by simp [xfKey, c_1, c_2]) (ke_i cx hr hlk hI (Nat.zero_le _) (Nat.zero_le _) dX0_row_34 (congrArg (fun z => some (Value.int z)) (by simp [xfKey, c_1, c_2])) rfl)
  · exact kt_iob cx hlS hlk htab hE hI (hl.1.trans hml.symm) (show (50, "there is no such key") ∈ kstrs by decide) dX0_row_7 dX0_row_10 dX0_row_11 dX0_row_13 dX0_row_16 ⟨Nat.le_of_ble_eq_true rfl, Nat.le_of_ble_eq_true rfl⟩ ⟨Nat.le_of_ble_eq_true rfl, Nat.le_of_ble_eq_true rfl⟩ (⟨(by simp [xfKey, c_1]), rfl⟩)
set_option maxHeartbeats 4000000 in
set_option maxRecDepth 100000 in
theorem kX0_shadow (l : Launch) (D : va_G) (ca : Nat → ClassId) (ad : Nat → Nat) (v : XS) (key col : Int32) (hlS : l.stackTraces = false) : CX l yX0_shadow cX0_shadow 3 (some .int) (KR1 6 82) D ca (xw ad ca v) [.ref (ad 0), .int key, .int col] (xfShadow key col = 0) (some (.int (xC v col.toNatClampNeg key.toNatClampNeg))) (xw ad ca v) (fun E => (xfShadow key col = 1 ∧ E = "java/lang/IndexOutOfBoundsException")) := by
  refine CX.of (by decide) (Nat.le_of_ble_eq_true rfl) ?_
  intro p e s m below meth c A ls cx hml hr hlk htab hE hI hl
  have hl : lv_has ls 3 [(0, .ref (ad 0)), (1, .int key), (2, .int col)] := hl
  refine lv_iload_n cx.1 cx.2.1 dX0_shadow_0 rfl (lv_at hl 1 rfl) ?_
  refine ks_i 1 cx (hl.1.trans hml.symm) (kX0_isKey l D ca key) hI wk_140 wk_138 wk_139 wk_1 ⟨by decide, by decide, by decide +kernel⟩ rfl ⟨rfl, rfl⟩ ⟨Nat.le_of_ble_eq_true rfl, Nat.le_of_ble_eq_true rfl⟩ (Nat.le_of_ble_eq_true rfl) dX0_shadow_1 ⟨Nat.zero_le _, Nat.zero_le _⟩ rfl (fun H locs hI => ?_)
  refine kb_eq (tgt := 14) cx dX0_shadow_4 (by decide) (fun c_1 => ?_) (fun c_1 => ?_)
  · exact kt_iob cx hlS hlk htab hE hI (hl.1.trans hml.symm) (show (158, "there is no such key or column") ∈ kstrs by decide) dX0_shadow_14 dX0_shadow_17 dX0_shadow_18 dX0_shadow_20 dX0_shadow_23 ⟨Nat.le_of_ble_eq_true rfl, Nat.le_of_ble_eq_true rfl⟩ ⟨Nat.le_of_ble_eq_true rfl, Nat.le_of_ble_eq_true rfl⟩ (⟨(by simp [xfShadow, c_1]), rfl⟩)
  · refine lv_iload_n cx.1 cx.2.1 dX0_shadow_7 rfl (lv_at hl 2 rfl) ?_
    refine ks_i 1 cx (hl.1.trans hml.symm) (kX0_isColumn l D ca col) hI wk_413 wk_411 wk_412 wk_1 ⟨by decide, by decide, by decide +kernel⟩ rfl ⟨rfl, rfl⟩ ⟨Nat.le_of_ble_eq_true rfl, Nat.le_of_ble_eq_true rfl⟩ (Nat.le_of_ble_eq_true rfl) dX0_shadow_8 ⟨Nat.zero_le _, Nat.zero_le _⟩ rfl (fun H locs hI => ?_)
    refine kb_ne (tgt := 24) cx dX0_shadow_11 (by decide) (fun c_2 => ?_) (fun c_2 => ?_)
    · have hk : vp_in key 40 := xKey_in c_1
      have hc : vp_in col 3 := xCol_in c_2
      refine lv_aload_n cx.1 cx.2.1 dX0_shadow_24 rfl (lv_at hl 0 rfl) ?_
      refine xg_2 cx hI dX0_shadow_25 ?_
      refine lv_iload_n cx.1 cx.2.1 dX0_shadow_28 rfl (lv_at hl 2 rfl) ?_
      refine xa_cols cx hI hc dX0_shadow_29 ?_
      refine lv_iload_n cx.1 cx.2.1 dX0_shadow_30 rfl (lv_at hl 1 rfl) ?_
      refine xa_col (j := col.toNatClampNeg) cx hI hc rfl hk dX0_shadow_31 ?_
      exact ke_x (by simp [xfShadow, c_1, c_2]) (ke_i cx hr hlk hI (Nat.zero_le _) (Nat.zero_le _) dX0_shadow_32 rfl rfl)
    · exact kt_iob cx hlS hlk htab hE hI (hl.1.trans hml.symm) (show (158, "there is no such key or column") ∈ kstrs by decide) dX0_shadow_14 dX0_shadow_17 dX0_shadow_18 dX0_shadow_20 dX0_shadow_23 ⟨Nat.le_of_ble_eq_true rfl, Nat.le_of_ble_eq_true rfl⟩ ⟨Nat.le_of_ble_eq_true rfl, Nat.le_of_ble_eq_true rfl⟩ (⟨(by simp [xfShadow, c_1, c_2]), rfl⟩)
set_option maxHeartbeats 4000000 in
set_option maxRecDepth 100000 in
theorem kX0_isRefused (l : Launch) (D : va_G) (ca : Nat → ClassId) (ad : Nat → Nat) (v : XS) (key : Int32) (hz : ∀ j : Nat, narrow .boolean (.int (xR v j)) = .int (xR v j)) (hlS : l.stackTraces = false) : CX l yX0_isRefused cX0_isRefused 2 (some .boolean) (KR1 6 82) D ca (xw ad ca v) [.ref (ad 0), .int key] (xfKey key = 0) (some (.int (xR v key.toNatClampNeg))) (xw ad ca v) (fun E => (xfKey key = 1 ∧ E = "java/lang/IndexOutOfBoundsException")) := by
  refine CX.of (by decide) (Nat.le_of_ble_eq_true rfl) ?_
  intro p e s m below meth c A ls cx hml hr hlk htab hE hI hl
  have hl : lv_has ls 2 [(0, .ref (ad 0)), (1, .int key)] := hl
  refine lv_iload_n cx.1 cx.2.1 dX0_isRefused_0 rfl (lv_at hl 1 rfl) ?_
  refine ks_i 1 cx (hl.1.trans hml.symm) (kX0_isKey l D ca key) hI wk_140 wk_138 wk_139 wk_1 ⟨by decide, by decide, by decide +kernel⟩ rfl ⟨rfl, rfl⟩ ⟨Nat.le_of_ble_eq_true rfl, Nat.le_of_ble_eq_true rfl⟩ (Nat.le_of_ble_eq_true rfl) dX0_isRefused_1 ⟨Nat.zero_le _, Nat.zero_le _⟩ rfl (fun H locs hI => ?_)
  refine kb_ne (tgt := 17) cx dX0_isRefused_4 (by decide) (fun c_1 => ?_) (fun c_1 => ?_)
  · have hk : vp_in key 40 := xKey_in c_1
    refine lv_aload_n cx.1 cx.2.1 dX0_isRefused_17 rfl (lv_at hl 0 rfl) ?_
    refine xg_3 cx hI dX0_isRefused_18 ?_
    refine lv_iload_n cx.1 cx.2.1 dX0_isRefused_21 rfl (lv_at hl 1 rfl) ?_
    refine xa_R cx hI hk dX0_isRefused_22 ?_
    exact ke_x (by simp [xfKey, c_1]) (ke_z cx hr hlk hI (Nat.zero_le _) (Nat.zero_le _) dX0_isRefused_23 (hz _) rfl rfl)
  · exact kt_iob cx hlS hlk htab hE hI (hl.1.trans hml.symm) (show (50, "there is no such key") ∈ kstrs by decide) dX0_isRefused_7 dX0_isRefused_10 dX0_isRefused_11 dX0_isRefused_13 dX0_isRefused_16 ⟨Nat.le_of_ble_eq_true rfl, Nat.le_of_ble_eq_true rfl⟩ ⟨Nat.le_of_ble_eq_true rfl, Nat.le_of_ble_eq_true rfl⟩ (⟨(by simp [xfKey, c_1]), rfl⟩)
set_option maxHeartbeats 4000000 in
set_option maxRecDepth 100000 in
theorem kX0_sum (l : Launch) (D : va_G) (ca : Nat → ClassId) (ad : Nat → Nat) (v : XS) (col : Int32) (hlS : l.stackTraces = false) : CX l yX0_sum cX0_sum 4 (some .int) (KR1 6 82) D ca (xw ad ca v) [.ref (ad 0), .int col] (xfCol col = 0) (some (.int (xSum v col 40))) (xw ad ca v) (fun E => (xfCol col = 1 ∧ E = "java/lang/IndexOutOfBoundsException")) := by
  refine CX.of (by decide) (Nat.le_of_ble_eq_true rfl) ?_
  intro p e s m below meth c A ls cx hml hr hlk htab hE hI hl
  have hl : lv_has ls 4 [(0, .ref (ad 0)), (1, .int col)] := hl
  refine lv_iload_n cx.1 cx.2.1 dX0_sum_0 rfl (lv_at hl 1 rfl) ?_
  refine ks_i 1 cx (hl.1.trans hml.symm) (kX0_isColumn l D ca col) hI wk_413 wk_411 wk_412 wk_1 ⟨by decide, by decide, by decide +kernel⟩ rfl ⟨rfl, rfl⟩ ⟨Nat.le_of_ble_eq_true rfl, Nat.le_of_ble_eq_true rfl⟩ (Nat.le_of_ble_eq_true rfl) dX0_sum_1 ⟨Nat.zero_le _, Nat.zero_le _⟩ rfl (fun H locs hI => ?_)
  refine kb_ne (tgt := 17) cx dX0_sum_4 (by decide) (fun c_1 => ?_) (fun c_1 => ?_)
  · have hc : vp_in col 3 := xCol_in c_1
    refine lv_iconst (v := 0) cx.1 cx.2.1 dX0_sum_17 (by decide) ?_
    refine lv_istore_n (lv' := [(2, .int 0), (0, .ref (ad 0)), (1, .int col)]) cx.1 cx.2.1 dX0_sum_18 rfl hl (by decide) rfl (fun ls hl => ?_)
    refine lv_iconst (v := 0) cx.1 cx.2.1 dX0_sum_19 (by decide) ?_
    refine lv_istore_n (lv' := [(3, .int 0), (2, .int 0), (0, .ref (ad 0)), (1, .int col)]) cx.1 cx.2.1 dX0_sum_20 rfl hl (by decide) rfl (fun ls hl => ?_)
    refine k_loop 40 (fun i => (xw ad ca v)) (fun i => [(3, .int (nI i)), (2, .int (xSum v col i)), (0, .ref (ad 0)), (1, .int col)]) hI (lv_sub hl [0, 1, 2, 3] rfl) (fun H locs ls hI hl => ?_) (fun i hi H locs ls hI hl ih => ?_)
    · have hI : KI D A (xw ad ca v) s.heap H locs := hI
      have hl : lv_has ls 4 [(3, .int (nI 40)), (2, .int (xSum v col 40)), (0, .ref (ad 0)), (1, .int col)] := hl
      refine lv_iload_n cx.1 cx.2.1 dX0_sum_21 rfl (lv_at hl 0 rfl) ?_
      refine lv_bipush (v := 40) cx.1 cx.2.1 dX0_sum_22 (by decide) ?_
      refine lv_icmp_ge (tgt := 52) cx.1 cx.2.1 dX0_sum_24 (by decide) (fun _ => ?_) (fun h9 => absurd (by decide : (40 : Int32) ≤ nI 40) h9)
      refine lv_iload_n cx.1 cx.2.1 dX0_sum_52 rfl (lv_at hl 1 rfl) ?_
      exact ke_x (by simp [xfCol, c_1]) (ke_i cx hr hlk hI (Nat.zero_le _) (Nat.zero_le _) dX0_sum_53 rfl rfl)
    · have hI : KI D A (xw ad ca v) s.heap H locs := hI
      have hl : lv_has ls 4 [(3, .int (nI i)), (2, .int (xSum v col i)), (0, .ref (ad 0)), (1, .int col)] := hl
      refine lv_iload_n cx.1 cx.2.1 dX0_sum_21 rfl (lv_at hl 0 rfl) ?_
      refine lv_bipush (v := 40) cx.1 cx.2.1 dX0_sum_22 (by decide) ?_
      refine lv_icmp_ge (tgt := 52) cx.1 cx.2.1 dX0_sum_24 (by decide) (fun h9 => absurd h9 (nI_ge hi (by decide))) (fun _ => ?_)
      refine lv_aload_n cx.1 cx.2.1 dX0_sum_27 rfl (lv_at hl 2 rfl) ?_
      refine lv_iload_n cx.1 cx.2.1 dX0_sum_28 rfl (lv_at hl 0 rfl) ?_
      refine xc_i 1 cx (hl.1.trans hml.symm) (kX0_isInShadow l D ca ad v (nI i) (vp_in_nI hi (by decide))) hI wk_80 wk_77 wk_79 wq_2 ⟨rfl, by decide +kernel⟩ rfl ⟨rfl, rfl⟩ ⟨Nat.le_of_ble_eq_true rfl, Nat.le_of_ble_eq_true rfl⟩ (Nat.le_of_ble_eq_true rfl) dX0_sum_29 ⟨Nat.zero_le _, Nat.zero_le _⟩ rfl (fun H locs hI => ?_)
      refine kb_eq (tgt := 46) cx dX0_sum_32 (by decide) (fun c_4 => ?_) (fun c_4 => ?_)
      · refine lv_iinc (v := nI (i + 1)) (lv' := [(3, .int (nI (i + 1))), (2, .int (xSum v col i)), (0, .ref (ad 0)), (1, .int col)]) cx.1 cx.2.1 dX0_sum_46 hl (k := 0) rfl (nI_1 i) (by decide) rfl (fun ls hl => ?_)
        refine lv_goto (tgt := 21) cx.1 cx.2.1 dX0_sum_49 (by decide) ?_
        refine ih _ _ _ ?_ ?_
        · show KI D A (xw ad ca v) s.heap _ _
          exact hI
        · show lv_has _ _ [(3, .int (nI (i + 1))), (2, .int (xSum v col (i + 1))), (0, .ref (ad 0)), (1, .int col)]
          rw [show xSum v col (i + 1) = xSum v col i from (by simp [xfCol, c_4, xSum_t, xSum_f])]
          exact lv_sub hl [0, 1, 2, 3] rfl
      · refine lv_iload_n cx.1 cx.2.1 dX0_sum_35 rfl (lv_at hl 1 rfl) ?_
        refine lv_aload_n cx.1 cx.2.1 dX0_sum_36 rfl (lv_at hl 2 rfl) ?_
        refine xg_2 cx hI dX0_sum_37 ?_
        refine lv_iload_n cx.1 cx.2.1 dX0_sum_40 rfl (lv_at hl 3 rfl) ?_
        refine xa_cols cx hI hc dX0_sum_41 ?_
        refine lv_iload_n cx.1 cx.2.1 dX0_sum_42 rfl (lv_at hl 0 rfl) ?_
        refine xa_col (j := col.toNatClampNeg) cx hI hc rfl (vp_in_nI hi (by decide)) dX0_sum_43 ?_
        refine lv_iadd cx.1 cx.2.1 dX0_sum_44 ?_
        refine lv_istore_n (lv' := [(2, .int ((xSum v col i) + (xC v col.toNatClampNeg (nI i).toNatClampNeg))), (3, .int (nI i)), (0, .ref (ad 0)), (1, .int col)]) cx.1 cx.2.1 dX0_sum_45 rfl hl (by decide) rfl (fun ls hl => ?_)
        refine lv_iinc (v := nI (i + 1)) (lv' := [(3, .int (nI (i + 1))), (2, .int ((xSum v col i) + (xC v col.toNatClampNeg (nI i).toNatClampNeg))), (0, .ref (ad 0)), (1, .int col)]) cx.1 cx.2.1 dX0_sum_46 hl (k := 1) rfl (nI_1 i) (by decide) rfl (fun ls hl => ?_)
        refine lv_goto (tgt := 21) cx.1 cx.2.1 dX0_sum_49 (by decide) ?_
        refine ih _ _ _ ?_ ?_
        · show KI D A (xw ad ca v) s.heap _ _
          exact hI
        · show lv_has _ _ [(3, .int (nI (i + 1))), (2, .int (xSum v col (i + 1))), (0, .ref (ad 0)), (1, .int col)]
          rw [show xSum v col (i + 1) = (xSum v col i) + (xC v col.toNatClampNeg (nI i).toNatClampNeg) from (by simp [xfCol, c_4, xSum_t, xSum_f])]
          exact lv_sub hl [0, 1, 2, 3] rfl
  · exact kt_iob cx hlS hlk htab hE hI (hl.1.trans hml.symm) (show (166, "there is no such column") ∈ kstrs by decide) dX0_sum_7 dX0_sum_10 dX0_sum_11 dX0_sum_13 dX0_sum_16 ⟨Nat.le_of_ble_eq_true rfl, Nat.le_of_ble_eq_true rfl⟩ ⟨Nat.le_of_ble_eq_true rfl, Nat.le_of_ble_eq_true rfl⟩ (⟨(by simp [xfCol, c_1]), rfl⟩)
set_option maxHeartbeats 4000000 in
set_option maxRecDepth 100000 in
theorem kX0_sumAtOnce (l : Launch) (D : va_G) (ca : Nat → ClassId) (ad : Nat → Nat) (v : XS) (col : Int32) (hlS : l.stackTraces = false) : CX l yX0_sumAtOnce cX0_sumAtOnce 5 (some .int) (KR1 6 86) D ca (xw ad ca v) [.ref (ad 0), .int col] (xfCol col = 0) (some (.int (if xp v = 0 then 0 else xSumAt v col 40))) (xw ad ca v) (fun E => (xfCol col = 1 ∧ E = "java/lang/IndexOutOfBoundsException")) := by
  refine CX.of (by decide) (Nat.le_of_ble_eq_true rfl) ?_
  intro p e s m below meth c A ls cx hml hr hlk htab hE hI hl
  have hl : lv_has ls 5 [(0, .ref (ad 0)), (1, .int col)] := hl
  refine lv_iload_n cx.1 cx.2.1 dX0_sumAtOnce_0 rfl (lv_at hl 1 rfl) ?_
  refine ks_i 1 cx (hl.1.trans hml.symm) (kX0_isColumn l D ca col) hI wk_413 wk_411 wk_412 wk_1 ⟨by decide, by decide, by decide +kernel⟩ rfl ⟨rfl, rfl⟩ ⟨Nat.le_of_ble_eq_true rfl, Nat.le_of_ble_eq_true rfl⟩ (Nat.le_of_ble_eq_true rfl) dX0_sumAtOnce_1 ⟨Nat.zero_le _, Nat.zero_le _⟩ rfl (fun H locs hI => ?_)
  refine kb_ne (tgt := 17) cx dX0_sumAtOnce_4 (by decide) (fun c_1 => ?_) (fun c_1 => ?_)
  · refine lv_aload_n cx.1 cx.2.1 dX0_sumAtOnce_17 rfl (lv_at hl 0 rfl) ?_
    refine xg_6 cx hI dX0_sumAtOnce_18 ?_
    refine lv_if_ne (tgt := 26) cx.1 cx.2.1 dX0_sumAtOnce_21 (by decide) (fun c_2 => ?_) (fun c_2 => ?_)
    · refine lv_iconst (v := 0) cx.1 cx.2.1 dX0_sumAtOnce_26 (by decide) ?_
      refine lv_istore_n (lv' := [(2, .int 0), (0, .ref (ad 0)), (1, .int col)]) cx.1 cx.2.1 dX0_sumAtOnce_27 rfl hl (by decide) rfl (fun ls hl => ?_)
      refine lv_iconst (v := 0) cx.1 cx.2.1 dX0_sumAtOnce_28 (by decide) ?_
      refine lv_istore_n (lv' := [(3, .int 0), (2, .int 0), (0, .ref (ad 0)), (1, .int col)]) cx.1 cx.2.1 dX0_sumAtOnce_29 rfl hl (by decide) rfl (fun ls hl => ?_)
      refine k_loop 40 (fun i => (xw ad ca v)) (fun i => [(3, .int (nI i)), (2, .int (xSumAt v col i)), (0, .ref (ad 0)), (1, .int col)]) hI (lv_sub hl [0, 1, 2, 3] rfl) (fun H locs ls hI hl => ?_) (fun i hi H locs ls hI hl ih => ?_)
      · have hI : KI D A (xw ad ca v) s.heap H locs := hI
        have hl : lv_has ls 5 [(3, .int (nI 40)), (2, .int (xSumAt v col 40)), (0, .ref (ad 0)), (1, .int col)] := hl
        refine lv_iload_n cx.1 cx.2.1 dX0_sumAtOnce_30 rfl (lv_at hl 0 rfl) ?_
        refine lv_bipush (v := 40) cx.1 cx.2.1 dX0_sumAtOnce_31 (by decide) ?_
        refine lv_icmp_ge (tgt := 61) cx.1 cx.2.1 dX0_sumAtOnce_33 (by decide) (fun _ => ?_) (fun h9 => absurd (by decide : (40 : Int32) ≤ nI 40) h9)
        refine lv_iload_n cx.1 cx.2.1 dX0_sumAtOnce_61 rfl (lv_at hl 1 rfl) ?_
        exact ke_x (by simp [xfCol, c_1, c_2]) (ke_i cx hr hlk hI (Nat.zero_le _) (Nat.zero_le _) dX0_sumAtOnce_62 (congrArg (fun z => some (Value.int z)) (by simp [xfCol, c_1, c_2])) rfl)
      · have hI : KI D A (xw ad ca v) s.heap H locs := hI
        have hl : lv_has ls 5 [(3, .int (nI i)), (2, .int (xSumAt v col i)), (0, .ref (ad 0)), (1, .int col)] := hl
        refine lv_iload_n cx.1 cx.2.1 dX0_sumAtOnce_30 rfl (lv_at hl 0 rfl) ?_
        refine lv_bipush (v := 40) cx.1 cx.2.1 dX0_sumAtOnce_31 (by decide) ?_
        refine lv_icmp_ge (tgt := 61) cx.1 cx.2.1 dX0_sumAtOnce_33 (by decide) (fun h9 => absurd h9 (nI_ge hi (by decide))) (fun _ => ?_)
        refine lv_aload_n cx.1 cx.2.1 dX0_sumAtOnce_36 rfl (lv_at hl 2 rfl) ?_
        refine lv_iload_n cx.1 cx.2.1 dX0_sumAtOnce_37 rfl (lv_at hl 0 rfl) ?_
        refine lv_iload_n cx.1 cx.2.1 dX0_sumAtOnce_38 rfl (lv_at hl 3 rfl) ?_
        refine xc_i 2 cx (hl.1.trans hml.symm) (kX0_broughtColumn l D ca ad v (nI i) col (vp_in_nI hi (by decide))) hI wk_108 wk_105 wk_107 wq_4 ⟨rfl, by decide +kernel⟩ rfl ⟨rfl, rfl⟩ ⟨Nat.le_of_ble_eq_true rfl, Nat.le_of_ble_eq_true rfl⟩ (Nat.le_of_ble_eq_true rfl) dX0_sumAtOnce_39 ⟨Nat.zero_le _, Nat.zero_le _⟩ rfl (fun H locs hI => ?_)
        refine lv_istore (lv' := [(4, .int (xBro v (nI i) col)), (3, .int (nI i)), (2, .int (xSumAt v col i)), (0, .ref (ad 0)), (1, .int col)]) cx.1 cx.2.1 dX0_sumAtOnce_42 hl (by decide) rfl (fun ls hl => ?_)
        refine lv_iload cx.1 cx.2.1 dX0_sumAtOnce_44 (lv_at hl 0 rfl) ?_
        refine lv_iconst (v := (-1)) cx.1 cx.2.1 dX0_sumAtOnce_46 (by decide) ?_
        refine lv_icmp_eq (tgt := 55) cx.1 cx.2.1 dX0_sumAtOnce_47 (by decide) (fun c_5 => ?_) (fun c_5 => ?_)
        · refine lv_iinc (v := nI (i + 1)) (lv' := [(3, .int (nI (i + 1))), (4, .int (xBro v (nI i) col)), (2, .int (xSumAt v col i)), (0, .ref (ad 0)), (1, .int col)]) cx.1 cx.2.1 dX0_sumAtOnce_55 hl (k := 1) rfl (nI_1 i) (by decide) rfl (fun ls hl => ?_)
          refine lv_goto (tgt := 30) cx.1 cx.2.1 dX0_sumAtOnce_58 (by decide) ?_
          refine ih _ _ _ ?_ ?_
          · show KI D A (xw ad ca v) s.heap _ _
            exact hI
          · show lv_has _ _ [(3, .int (nI (i + 1))), (2, .int (xSumAt v col (i + 1))), (0, .ref (ad 0)), (1, .int col)]
            rw [show xSumAt v col (i + 1) = xSumAt v col i from (by simp [xfCol, c_5, xSumAt_t, xSumAt_f])]
            exact lv_sub hl [0, 2, 3, 4] rfl
        · refine lv_iload_n cx.1 cx.2.1 dX0_sumAtOnce_50 rfl (lv_at hl 2 rfl) ?_
          refine lv_iload cx.1 cx.2.1 dX0_sumAtOnce_51 (lv_at hl 0 rfl) ?_
          refine lv_iadd cx.1 cx.2.1 dX0_sumAtOnce_53 ?_
          refine lv_istore_n (lv' := [(2, .int ((xSumAt v col i) + (xBro v (nI i) col))), (4, .int (xBro v (nI i) col)), (3, .int (nI i)), (0, .ref (ad 0)), (1, .int col)]) cx.1 cx.2.1 dX0_sumAtOnce_54 rfl hl (by decide) rfl (fun ls hl => ?_)
          refine lv_iinc (v := nI (i + 1)) (lv' := [(3, .int (nI (i + 1))), (2, .int ((xSumAt v col i) + (xBro v (nI i) col))), (4, .int (xBro v (nI i) col)), (0, .ref (ad 0)), (1, .int col)]) cx.1 cx.2.1 dX0_sumAtOnce_55 hl (k := 2) rfl (nI_1 i) (by decide) rfl (fun ls hl => ?_)
          refine lv_goto (tgt := 30) cx.1 cx.2.1 dX0_sumAtOnce_58 (by decide) ?_
          refine ih _ _ _ ?_ ?_
          · show KI D A (xw ad ca v) s.heap _ _
            exact hI
          · show lv_has _ _ [(3, .int (nI (i + 1))), (2, .int (xSumAt v col (i + 1))), (0, .ref (ad 0)), (1, .int col)]
            rw [show xSumAt v col (i + 1) = (xSumAt v col i) + (xBro v (nI i) col) from (by simp [xfCol, c_5, xSumAt_t, xSumAt_f])]
            exact lv_sub hl [0, 1, 3, 4] rfl
    · refine lv_iconst (v := 0) cx.1 cx.2.1 dX0_sumAtOnce_24 (by decide) ?_
      exact ke_x (by simp [xfCol, c_1, c_2]) (ke_i cx hr hlk hI (Nat.zero_le _) (Nat.zero_le _) dX0_sumAtOnce_25 (congrArg (fun z => some (Value.int z)) (by simp [xfCol, c_1, c_2])) rfl)
  · exact kt_iob cx hlS hlk htab hE hI (hl.1.trans hml.symm) (show (166, "there is no such column") ∈ kstrs by decide) dX0_sumAtOnce_7 dX0_sumAtOnce_10 dX0_sumAtOnce_11 dX0_sumAtOnce_13 dX0_sumAtOnce_16 ⟨Nat.le_of_ble_eq_true rfl, Nat.le_of_ble_eq_true rfl⟩ ⟨Nat.le_of_ble_eq_true rfl, Nat.le_of_ble_eq_true rfl⟩ (⟨(by simp [xfCol, c_1]), rfl⟩)
end
section
/-! MINE: what each method of the reference does to its state. -/
def mRa (row : Int32) : Int32 := row / 1000
def mRb (row : Int32) : Int32 := row - row / 1000 * 1000
def mSuits (v : MS) (row : Int32) : Bool := !decide (mt v = 1) || !decide (mq v < mRb row)
def mAlt (v : MS) (row c : Int32) : Int32 :=
  if mt v = 0 then (if c = 0 then mRa row / 100 else if c = 1 then mRa row - mRa row / 100 * 100 else mRb row)
  else if mt v = 1 then (if c = 0 then mRa row else if c = 1 then mRb row else 0)
  else (if c = 0 then mRa row else if c = 1 then mRb row * mq v else xDig (mRb row))
def mDue (v : MS) (k : Int32) : Bool := !decide (mO v k.toNatClampNeg = -1) && mSuits v (mO v k.toNatClampNeg)
def mSeen (v : MS) (k : Int32) : Bool := !decide (mO v k.toNatClampNeg = -1) && (!decide (mp v = 2) || !decide (mH v k.toNatClampNeg = 0))
def mB1 (v : MS) (k : Int32) : MS := mUH v (upd (mH v) k.toNatClampNeg (vp_nar .boolean (b2i (mDue v k))))
def mOutB (v : MS) (k : Int32) : Bool := !decide (mO v k.toNatClampNeg = -1) && decide (mH v k.toNatClampNeg = 0)
def mB2 (v : MS) (k : Int32) : MS := mUF (mB1 v k) (upd (mF (mB1 v k)) k.toNatClampNeg (vp_nar .boolean (b2i (mOutB (mB1 v k) k))))
def mSt (v : MS) (k c : Int32) : MS := mUS v (upd (mS v) (3 * k + c).toNatClampNeg (mAlt v (mO v k.toNatClampNeg) c))
def mS3 (v : MS) (k : Int32) : MS := mSt (mSt (mSt v k 0) k 1) k 2
def mBrings (v : MS) (k : Int32) : MS := if mH (mB2 v k) k.toNatClampNeg = 0 then mB2 v k else mS3 (mB2 v k) k
def mNote (v : MS) (k : Int32) : MS := mUc (mUN v (upd (mN v) (mc v).toNatClampNeg k)) (mc (mUN v (upd (mN v) (mc v).toNatClampNeg k)) + 1)
def mWrote (v : MS) (k : Int32) : MS := if mp v = 1 then mNote v k else if mp v = 2 then mBrings v k else v
def mWrites (v : MS) (k row : Int32) : MS := mWrote (mUO v (upd (mO v) k.toNatClampNeg row)) k
def mFault (v : MS) (k a b : Int32) : Int32 := if !xWithin k 0 39 then 1 else if !(xWithin a 0 999 && xWithin b 0 999) || (decide (mp v = 2) && !mSuits v (1000 * a + b)) then 2 else 0
def mfInsert (v : MS) (k a b : Int32) : Int32 := if mFault v k a b ≤ 0 then (if mSeen v k then 3 else 0) else mFault v k a b
def mfUpdate (v : MS) (k a b : Int32) : Int32 := if mFault v k a b ≤ 0 then (if mSeen v k then 0 else 3) else mFault v k a b
def mInsert (v : MS) (k a b : Int32) : MS := if mfInsert v k a b = 0 then mWrites (mUz v (mfInsert v k a b)) k (1000 * a + b) else mUz v (mfInsert v k a b)
def mUpdate (v : MS) (k a b : Int32) : MS := if mfUpdate v k a b = 0 then mWrites (mUz v (mfUpdate v k a b)) k (1000 * a + b) else mUz v (mfUpdate v k a b)
def mfDelete (v : MS) (k : Int32) : Int32 := if !xWithin k 0 39 then 1 else if mSeen v k then 0 else 2
def mDelete (v : MS) (k : Int32) : MS := if mfDelete v k = 0 then mWrites (mUz v (mfDelete v k)) k (-1) else mUz v (mfDelete v k)
def kBoth (a b : Bool) : Bool := a && b
def mfRekey (v : MS) (k to : Int32) : Int32 := if !kBoth (xWithin k 0 39) (xWithin to 0 39) then 1 else if k = to then 2 else if !mSeen v k then 3 else if mSeen v to then 4 else 0
def mMin (a b : Int32) : Int32 := if b ≤ a then b else a
def mMax (a b : Int32) : Int32 := if b ≤ a then a else b
def mMove (v : MS) (k to : Int32) : MS := mUO (mUO v (upd (mO v) to.toNatClampNeg (mO v k.toNatClampNeg))) (upd (mO (mUO v (upd (mO v) to.toNatClampNeg (mO v k.toNatClampNeg)))) k.toNatClampNeg (-1))
def mRekey (v : MS) (k to : Int32) : MS := if mfRekey v k to = 0 then mWrote (mWrote (mMove (mUz v (mfRekey v k to)) k to) (mMin k to)) (mMax k to) else mUz v (mfRekey v k to)
def mClr (v : MS) : Nat → MS
  | 0 => v
  | n + 1 => mUF (mUH (mClr v n) (upd (mH (mClr v n)) (nI n).toNatClampNeg (vp_nar .boolean 0))) (upd (mF (mUH (mClr v n) (upd (mH (mClr v n)) (nI n).toNatClampNeg (vp_nar .boolean 0)))) (nI n).toNatClampNeg (vp_nar .boolean 0))
def mClears (v : MS) : MS := mUc (mUm (mClr v 40) 0) 0
def mfStart (v : MS) (al pa : Int32) : Int32 := if !kBoth (xWithin al 0 2) (xWithin pa 0 999) then 1 else if mp v = 0 then 0 else 2
def mStart (v : MS) (al pa : Int32) : MS := if mfStart v al pa = 0 then mUp (mClears (mUq (mUt (mUz v (mfStart v al pa)) al) pa)) 1 else mUz v (mfStart v al pa)
def mfPace (ch lag : Int32) : Int32 := if xWithin ch 1 40 && xWithin lag 0 100 then 0 else 1
def mPace (v : MS) (ch lag : Int32) : MS := if mfPace ch lag = 0 then mUl (mUk (mUz v (mfPace ch lag)) ch) lag else mUz v (mfPace ch lag)
def mPlayL (v : MS) : Nat → MS
  | 0 => v
  | n + 1 => mBrings (mPlayL v n) (mN (mPlayL v n) (nI n).toNatClampNeg)
def mShift (v : MS) (c : Nat) : Nat → MS
  | 0 => v
  | n + 1 => mUN (mShift v c n) (upd (mN (mShift v c n)) (nI (c + n) - nI c).toNatClampNeg (mN (mShift v c n) (nI (c + n)).toNatClampNeg))
def mPlays (v : MS) (c n : Nat) : MS := mUc (mShift (mPlayL v c) c n) (mc (mShift (mPlayL v c) c n) - nI c)
def mfTick (v : MS) (lag : Int32) : Int32 := if !xWithin lag 0 1000 then 1 else if mp v = 1 then 0 else 2
def mLeft (v : MS) : Int32 := if 40 ≤ mm v then mc v else 40 - mm v
def mMany (v : MS) : Int32 := if mk v ≤ mLeft v then mk v else mLeft v
def mTickL (v : MS) : Nat → MS
  | 0 => v
  | n + 1 => mUm (mBrings (mTickL v n) (mm (mTickL v n))) (mm (mBrings (mTickL v n) (mm (mTickL v n))) + 1)
def mTick (v : MS) (lag : Int32) (cn r : Nat) : MS := if mfTick v lag = 0 then (if lag ≤ ml v then (if 40 ≤ mm v then mPlays (mUz v (mfTick v lag)) cn r else mTickL (mUz v (mfTick v lag)) cn) else mUz v (mfTick v lag)) else mUz v (mfTick v lag)
def mfCut (v : MS) (most : Int32) : Int32 := if !xWithin most 0 1000 then 1 else if !decide (mp v = 1) || (decide (mm v < 40) || !decide (mc v ≤ most)) then 2 else 0
def mCut (v : MS) (most : Int32) (n : Nat) : MS := if mfCut v most = 0 then mUp (mPlays (mUz v (mfCut v most)) n 0) 2 else mUz v (mfCut v most)
def mfUndo (v : MS) : Int32 := if mp v = 2 then 0 else 1
def mUndo (v : MS) : MS := if mfUndo v = 0 then mUp (mUz v (mfUndo v)) 1 else mUz v (mfUndo v)
def mShd (v : MS) : Nat → Int32 := kSum (fun i => b2i (!decide (mH v (nI i).toNatClampNeg = 0)))
def mGo (v : MS) (i : Nat) : Bool := !decide (mO v (nI i).toNatClampNeg = -1) && decide (mH v (nI i).toNatClampNeg = 0)
def mRem (v : MS) : Nat → MS
  | 0 => v
  | n + 1 => if mGo (mRem v n) n then mUO (mRem v n) (upd (mO (mRem v n)) (nI n).toNatClampNeg (-1)) else mRem v n
def mRemN (v : MS) : Nat → Int32
  | 0 => 0
  | n + 1 => mRemN v n + b2i (mGo (mRem v n) n)
def mFinish (v : MS) : MS := if mfUndo v = 0 then mUp (mClears (mRem (mUz v (mfUndo v)) 40)) 0 else mUz v (mfUndo v)
def mfGive (v : MS) : Int32 := if mp v = 1 then 0 else 1
def mGive (v : MS) : MS := if mfGive v = 0 then mUp (mClears (mUz v (mfGive v))) 0 else mUz v (mfGive v)
def mfKey (k : Int32) : Int32 := if xWithin k 0 39 then 0 else 1
def mfCol (c : Int32) : Int32 := if xWithin c 0 2 then 0 else 1
def mfShadow (k c : Int32) : Int32 := if xWithin k 0 39 && xWithin c 0 2 then 0 else 1
def mRows (v : MS) : Nat → Int32 := kSum (fun i => b2i (mSeen v (nI i)))
def mE0 (v : MS) (k : Int32) : Bool := decide (b2i (mDue v k) = mH v k.toNatClampNeg)
def mEc (v : MS) (k c : Int32) : Bool := decide (mS v (3 * k + c).toNatClampNeg = mAlt v (mO v k.toNatClampNeg) c)
def mI1 (v : MS) (k : Int32) : Bool := kBoth (mE0 v k) (mEc v k 0)
def mI2 (v : MS) (k : Int32) : Bool := kBoth (mI1 v k) (mEc v k 1)
def mI3 (v : MS) (k : Int32) : Bool := kBoth (mI2 v k) (mEc v k 2)
def mEven (v : MS) (k : Int32) : Bool := if mDue v k then mI3 v k else mE0 v k
theorem mE0_t {v : MS} {k : Int32} (h : b2i (mDue v k) = mH v k.toNatClampNeg) : mE0 v k = true := decide_eq_true h
theorem mE0_f {v : MS} {k : Int32} (h : ¬ b2i (mDue v k) = mH v k.toNatClampNeg) : mE0 v k = false := decide_eq_false h
theorem mEc_t {v : MS} {k c : Int32} (h : mS v (3 * k + c).toNatClampNeg = mAlt v (mO v k.toNatClampNeg) c) : mEc v k c = true := decide_eq_true h
theorem mEc_f {v : MS} {k c : Int32} (h : ¬ mS v (3 * k + c).toNatClampNeg = mAlt v (mO v k.toNatClampNeg) c) : mEc v k c = false := decide_eq_false h
def mBehinds (v : MS) : Nat → Int32 := kSum (fun i => b2i (!mEven v (nI i)))
def mSumI (v : MS) (c : Int32) (i : Nat) : Int32 := if mH v (nI i).toNatClampNeg = 0 then 0 else mS v (3 * nI i + c).toNatClampNeg
def mSum (v : MS) (c : Int32) : Nat → Int32 := kSum (mSumI v c)
def mSumAI (v : MS) (c : Int32) (i : Nat) : Int32 := if mDue v (nI i) then mAlt v (mO v (nI i).toNatClampNeg) c else 0
def mSumAt (v : MS) (c : Int32) : Nat → Int32 := kSum (mSumAI v c)
theorem mFault_in {v : MS} {k a b : Int32} (h : mFault v k a b ≤ 0) : vp_in k 40 := by
  refine xKey_in ?_
  cases hk : xWithin k 0 39 with
  | true => rfl
  | false => simp [mFault, hk] at h
theorem mfInsert_in {v : MS} {k a b : Int32} (h : decide (mfInsert v k a b = 0) = true) : vp_in k 40 := by
  by_cases h1 : mFault v k a b ≤ 0
  · exact mFault_in h1
  · simp [mfInsert, h1] at h
    exact absurd (by rw [h]; exact Int32.le_refl _) h1
theorem mfUpdate_in {v : MS} {k a b : Int32} (h : decide (mfUpdate v k a b = 0) = true) : vp_in k 40 := by
  by_cases h1 : mFault v k a b ≤ 0
  · exact mFault_in h1
  · simp [mfUpdate, h1] at h
    exact absurd (by rw [h]; exact Int32.le_refl _) h1
theorem mfKey_in {k : Int32} (h : decide (mfKey k = 0) = true) : vp_in k 40 := by
  refine xKey_in ?_
  cases hk : xWithin k 0 39 with
  | true => rfl
  | false => simp [mfKey, hk] at h
theorem mfDelete_in {v : MS} {k : Int32} (h : decide (mfDelete v k = 0) = true) : vp_in k 40 := by
  refine xKey_in ?_
  cases hk : xWithin k 0 39 with
  | true => rfl
  | false => simp [mfDelete, hk] at h
theorem mfRekey_in {v : MS} {k to : Int32} (h : decide (mfRekey v k to = 0) = true) : vp_in k 40 ∧ vp_in to 40 := by
  cases hk : xWithin k 0 39 with
  | false => simp [mfRekey, kBoth, hk] at h
  | true =>
    cases ht : xWithin to 0 39 with
    | false => simp [mfRekey, kBoth, hk, ht] at h
    | true => exact ⟨xKey_in hk, xKey_in ht⟩
theorem mfShadow_in {k c : Int32} (h : decide (mfShadow k c = 0) = true) : vp_in k 40 ∧ vp_in c 3 := by
  cases hk : xWithin k 0 39 with
  | false => simp [mfShadow, hk] at h
  | true =>
    cases ht : xWithin c 0 2 with
    | false => simp [mfShadow, hk, ht] at h
    | true => exact ⟨xKey_in hk, xCol_in ht⟩
theorem kAnd2 {a b : Bool} (h : kBoth a b = true) : a = true ∧ b = true := Bool.and_eq_true_iff.mp h
theorem kidx {k c : Int32} (hk : vp_in k 40) (hc : vp_in c 3) : vp_in (3 * k + c) 120 := by
  obtain ⟨i, hi, rfl⟩ := vp_in_of hk (by decide)
  obtain ⟨j, hj, rfl⟩ := vp_in_of hc (by decide)
  rw [show (3 : Int32) = nI 3 from rfl, pk_mul, nI_add]
  exact vp_in_nI (by omega) (by decide)
theorem mMin_in {a b : Int32} {n : Nat} (ha : vp_in a n) (hb : vp_in b n) : vp_in (mMin a b) n := by unfold mMin; split <;> assumption
theorem mMax_in {a b : Int32} {n : Nat} (ha : vp_in a n) (hb : vp_in b n) : vp_in (mMax a b) n := by unfold mMax; split <;> assumption
theorem mBrings_N (v : MS) (k : Int32) : mN (mBrings v k) = mN v := by unfold mBrings; split <;> rfl
theorem mBrings_c (v : MS) (k : Int32) : mc (mBrings v k) = mc v := by unfold mBrings; split <;> rfl
theorem mBrings_m (v : MS) (k : Int32) : mm (mBrings v k) = mm v := by unfold mBrings; split <;> rfl
theorem mPlayL_N (v : MS) (n : Nat) : mN (mPlayL v n) = mN v := by
  induction n with
  | zero => rfl
  | succ n ih => exact (mBrings_N _ _).trans ih
theorem mPlayL_c (v : MS) (n : Nat) : mc (mPlayL v n) = mc v := by
  induction n with
  | zero => rfl
  | succ n ih => exact (mBrings_c _ _).trans ih
theorem mShift_c (v : MS) (c n : Nat) : mc (mShift v c n) = mc v := by
  induction n with
  | zero => rfl
  | succ n ih => exact ih
theorem mTickL_m {v : MS} {j : Nat} (h : mm v = nI j) (n : Nat) : mm (mTickL v n) = nI (j + n) := by
  induction n with
  | zero => exact h
  | succ n ih =>
    show mm (mBrings (mTickL v n) (mm (mTickL v n))) + 1 = _
    rw [mBrings_m, ih, nI_1]
    rfl
theorem mWrote_c {v : MS} {k : Int32} (h0 : vp_in (mc v) 2000) (h1 : vp_in (mc v + 1) 2000) : vp_in (mc (mWrote v k)) 2000 := by
  unfold mWrote
  by_cases h : mp v = 1
  · rw [if_pos h]; exact h1
  · rw [if_neg h]
    by_cases h2 : mp v = 2
    · rw [if_pos h2, mBrings_c]; exact h0
    · rw [if_neg h2]; exact h0
end
section
set_option maxHeartbeats 4000000 in
set_option maxRecDepth 100000 in
theorem kX1_isIn (l : Launch) (D : va_G) (ca : Nat → ClassId) (x a b : Int32) : CM l yX1_isIn cX1_isIn 3 (some .boolean) (KR 0 0) D ca [] [.int x, .int a, .int b] (some (.int (b2i (xWithin x a b)))) [] := by
  refine CM.of (by decide) (Nat.le_of_ble_eq_true rfl) ?_
  intro p e s m below meth c A ls cx hml hr hlk hI hl
  have hl : lv_has ls 3 [(0, .int x), (1, .int a), (2, .int b)] := hl
  refine lv_iload_n cx.1 cx.2.1 dX1_isIn_0 rfl (lv_at hl 0 rfl) ?_
  refine lv_iload_n cx.1 cx.2.1 dX1_isIn_1 rfl (lv_at hl 1 rfl) ?_
  refine lv_icmp_lt (tgt := 14) cx.1 cx.2.1 dX1_isIn_2 (by decide) (fun c_1 => ?_) (fun c_1 => ?_)
  · refine lv_iconst (v := 0) cx.1 cx.2.1 dX1_isIn_14 (by decide) ?_
    exact ke_z cx hr hlk hI (Nat.zero_le _) (Nat.zero_le _) dX1_isIn_15 rfl (congrArg (fun z => some (Value.int z)) (by simp [xWithin, b2i, c_1])) rfl
  · refine lv_iload_n cx.1 cx.2.1 dX1_isIn_5 rfl (lv_at hl 0 rfl) ?_
    refine lv_iload_n cx.1 cx.2.1 dX1_isIn_6 rfl (lv_at hl 2 rfl) ?_
    refine lv_icmp_gt (tgt := 14) cx.1 cx.2.1 dX1_isIn_7 (by decide) (fun c_2 => ?_) (fun c_2 => ?_)
    · refine lv_iconst (v := 0) cx.1 cx.2.1 dX1_isIn_14 (by decide) ?_
      exact ke_z cx hr hlk hI (Nat.zero_le _) (Nat.zero_le _) dX1_isIn_15 rfl (congrArg (fun z => some (Value.int z)) (by simp [xWithin, b2i, c_1, c_2])) rfl
    · refine lv_iconst (v := 1) cx.1 cx.2.1 dX1_isIn_10 (by decide) ?_
      refine lv_goto (tgt := 15) cx.1 cx.2.1 dX1_isIn_11 (by decide) ?_
      exact ke_z cx hr hlk hI (Nat.zero_le _) (Nat.zero_le _) dX1_isIn_15 rfl (congrArg (fun z => some (Value.int z)) (by simp [xWithin, b2i, c_1, c_2])) rfl
set_option maxHeartbeats 4000000 in
set_option maxRecDepth 100000 in
theorem kX1_isKey (l : Launch) (D : va_G) (ca : Nat → ClassId) (key : Int32) : CM l yX1_isKey cX1_isKey 1 (some .boolean) (KR 1 22) D ca [] [.int key] (some (.int (b2i (xWithin key 0 39)))) [] := by
  refine CM.of (by decide) (Nat.le_of_ble_eq_true rfl) ?_
  intro p e s m below meth c A ls cx hml hr hlk hI hl
  have hl : lv_has ls 1 [(0, .int key)] := hl
  refine lv_iload_n cx.1 cx.2.1 dX1_isKey_0 rfl (lv_at hl 0 rfl) ?_
  refine lv_iconst (v := 0) cx.1 cx.2.1 dX1_isKey_1 (by decide) ?_
  refine lv_bipush (v := 39) cx.1 cx.2.1 dX1_isKey_2 (by decide) ?_
  refine ks_i 3 cx (hl.1.trans hml.symm) (kX1_isIn l D ca key 0 39) hI wk_497 wk_495 wk_496 wk_3 ⟨by decide, by decide, by decide +kernel⟩ rfl ⟨rfl, rfl⟩ ⟨Nat.le_of_ble_eq_true rfl, Nat.le_of_ble_eq_true rfl⟩ (Nat.le_of_ble_eq_true rfl) dX1_isKey_4 ⟨Nat.zero_le _, Nat.zero_le _⟩ rfl (fun H locs hI => ?_)
  exact ke_z cx hr hlk hI (Nat.zero_le _) (Nat.zero_le _) dX1_isKey_7 (b2i_nar _) rfl rfl
set_option maxHeartbeats 4000000 in
set_option maxRecDepth 100000 in
theorem kX1_isColumn (l : Launch) (D : va_G) (ca : Nat → ClassId) (col : Int32) : CM l yX1_isColumn cX1_isColumn 1 (some .boolean) (KR 1 22) D ca [] [.int col] (some (.int (b2i (xWithin col 0 2)))) [] := by
  refine CM.of (by decide) (Nat.le_of_ble_eq_true rfl) ?_
  intro p e s m below meth c A ls cx hml hr hlk hI hl
  have hl : lv_has ls 1 [(0, .int col)] := hl
  refine lv_iload_n cx.1 cx.2.1 dX1_isColumn_0 rfl (lv_at hl 0 rfl) ?_
  refine lv_iconst (v := 0) cx.1 cx.2.1 dX1_isColumn_1 (by decide) ?_
  refine lv_iconst (v := 2) cx.1 cx.2.1 dX1_isColumn_2 (by decide) ?_
  refine ks_i 3 cx (hl.1.trans hml.symm) (kX1_isIn l D ca col 0 2) hI wk_497 wk_495 wk_496 wk_3 ⟨by decide, by decide, by decide +kernel⟩ rfl ⟨rfl, rfl⟩ ⟨Nat.le_of_ble_eq_true rfl, Nat.le_of_ble_eq_true rfl⟩ (Nat.le_of_ble_eq_true rfl) dX1_isColumn_3 ⟨Nat.zero_le _, Nat.zero_le _⟩ rfl (fun H locs hI => ?_)
  exact ke_z cx hr hlk hI (Nat.zero_le _) (Nat.zero_le _) dX1_isColumn_6 (b2i_nar _) rfl rfl
set_option maxHeartbeats 4000000 in
set_option maxRecDepth 100000 in
theorem kX1_digits (l : Launch) (D : va_G) (ca : Nat → ClassId) (b : Int32) : CM l yX1_digits cX1_digits 1 (some .int) (KR 0 0) D ca [] [.int b] (some (.int (xDig b))) [] := by
  refine CM.of (by decide) (Nat.le_of_ble_eq_true rfl) ?_
  intro p e s m below meth c A ls cx hml hr hlk hI hl
  have hl : lv_has ls 1 [(0, .int b)] := hl
  refine lv_iload_n cx.1 cx.2.1 dX1_digits_0 rfl (lv_at hl 0 rfl) ?_
  refine lv_bipush (v := 10) cx.1 cx.2.1 dX1_digits_1 (by decide) ?_
  refine lv_icmp_ge (tgt := 10) cx.1 cx.2.1 dX1_digits_3 (by decide) (fun c_1 => ?_) (fun c_1 => ?_)
  · refine lv_iload_n cx.1 cx.2.1 dX1_digits_10 rfl (lv_at hl 0 rfl) ?_
    refine lv_bipush (v := 100) cx.1 cx.2.1 dX1_digits_11 (by decide) ?_
    refine lv_icmp_ge (tgt := 20) cx.1 cx.2.1 dX1_digits_13 (by decide) (fun c_2 => ?_) (fun c_2 => ?_)
    · refine lv_iconst (v := 3) cx.1 cx.2.1 dX1_digits_20 (by decide) ?_
      exact ke_i cx hr hlk hI (Nat.zero_le _) (Nat.zero_le _) dX1_digits_21 (congrArg (fun z => some (Value.int z)) (by simp [xDig, c_1, c_2])) rfl
    · refine lv_iconst (v := 2) cx.1 cx.2.1 dX1_digits_16 (by decide) ?_
      refine lv_goto (tgt := 21) cx.1 cx.2.1 dX1_digits_17 (by decide) ?_
      exact ke_i cx hr hlk hI (Nat.zero_le _) (Nat.zero_le _) dX1_digits_21 (congrArg (fun z => some (Value.int z)) (by simp [xDig, c_1, c_2])) rfl
  · refine lv_iconst (v := 1) cx.1 cx.2.1 dX1_digits_6 (by decide) ?_
    refine lv_goto (tgt := 21) cx.1 cx.2.1 dX1_digits_7 (by decide) ?_
    exact ke_i cx hr hlk hI (Nat.zero_le _) (Nat.zero_le _) dX1_digits_21 (congrArg (fun z => some (Value.int z)) (by simp [xDig, c_1])) rfl
set_option maxHeartbeats 4000000 in
set_option maxRecDepth 100000 in
theorem kX1_thrown (l : Launch) (D : va_G) (ca : Nat → ClassId) (ad : Nat → Nat) (v : MS) : CM l yX1_thrown cX1_thrown 1 (some .int) (KR 0 0) D ca (mw ad ca v) [.ref (ad 0)] (some (.int (mz v))) (mw ad ca v) := by
  refine CM.of (by decide) (Nat.le_of_ble_eq_true rfl) ?_
  intro p e s m below meth c A ls cx hml hr hlk hI hl
  have hl : lv_has ls 1 [(0, .ref (ad 0))] := hl
  refine lv_aload_n cx.1 cx.2.1 dX1_thrown_0 rfl (lv_at hl 0 rfl) ?_
  refine mg_12 cx hI dX1_thrown_1 ?_
  exact ke_i cx hr hlk hI (Nat.zero_le _) (Nat.zero_le _) dX1_thrown_4 rfl rfl
set_option maxHeartbeats 4000000 in
set_option maxRecDepth 100000 in
theorem kX1_can (l : Launch) (D : va_G) (ca : Nat → ClassId) (ad : Nat → Nat) (v : MS) (f : Int32) : CM l yX1_can cX1_can 2 (some .boolean) (KR 0 0) D ca (mw ad ca v) [.ref (ad 0), .int f] (some (.int (b2i (decide (f = 0))))) (mw ad ca (mUz v f)) := by
  refine CM.of (by decide) (Nat.le_of_ble_eq_true rfl) ?_
  intro p e s m below meth c A ls cx hml hr hlk hI hl
  have hl : lv_has ls 2 [(0, .ref (ad 0)), (1, .int f)] := hl
  refine lv_aload_n cx.1 cx.2.1 dX1_can_0 rfl (lv_at hl 0 rfl) ?_
  refine lv_iload_n cx.1 cx.2.1 dX1_can_1 rfl (lv_at hl 1 rfl) ?_
  refine mp_12 cx hI dX1_can_2 (fun H locs hI => ?_)
  refine lv_iload_n cx.1 cx.2.1 dX1_can_5 rfl (lv_at hl 1 rfl) ?_
  refine lv_if_ne (tgt := 13) cx.1 cx.2.1 dX1_can_6 (by decide) (fun c_1 => ?_) (fun c_1 => ?_)
  · refine lv_iconst (v := 0) cx.1 cx.2.1 dX1_can_13 (by decide) ?_
    exact ke_z cx hr hlk hI (Nat.zero_le _) (Nat.zero_le _) dX1_can_14 rfl (congrArg (fun z => some (Value.int z)) (by simp [b2i, c_1])) rfl
  · refine lv_iconst (v := 1) cx.1 cx.2.1 dX1_can_9 (by decide) ?_
    refine lv_goto (tgt := 14) cx.1 cx.2.1 dX1_can_10 (by decide) ?_
    exact ke_z cx hr hlk hI (Nat.zero_le _) (Nat.zero_le _) dX1_can_14 rfl (congrArg (fun z => some (Value.int z)) (by simp [b2i, c_1])) rfl
set_option maxHeartbeats 4000000 in
set_option maxRecDepth 100000 in
theorem kX1_suits (l : Launch) (D : va_G) (ca : Nat → ClassId) (ad : Nat → Nat) (v : MS) (row : Int32) : CM l yX1_suits cX1_suits 2 (some .boolean) (KR 0 0) D ca (mw ad ca v) [.ref (ad 0), .int row] (some (.int (b2i (mSuits v row)))) (mw ad ca v) := by
  refine CM.of (by decide) (Nat.le_of_ble_eq_true rfl) ?_
  intro p e s m below meth c A ls cx hml hr hlk hI hl
  have hl : lv_has ls 2 [(0, .ref (ad 0)), (1, .int row)] := hl
  refine lv_aload_n cx.1 cx.2.1 dX1_suits_0 rfl (lv_at hl 0 rfl) ?_
  refine mg_5 cx hI dX1_suits_1 ?_
  refine lv_iconst (v := 1) cx.1 cx.2.1 dX1_suits_4 (by decide) ?_
  refine lv_icmp_ne (tgt := 20) cx.1 cx.2.1 dX1_suits_5 (by decide) (fun c_1 => ?_) (fun c_1 => ?_)
  · refine lv_iconst (v := 1) cx.1 cx.2.1 dX1_suits_20 (by decide) ?_
    refine lv_goto (tgt := 25) cx.1 cx.2.1 dX1_suits_21 (by decide) ?_
    exact ke_z cx hr hlk hI (Nat.zero_le _) (Nat.zero_le _) dX1_suits_25 rfl (congrArg (fun z => some (Value.int z)) (by simp [mSuits, b2i, mRb, c_1])) rfl
  · refine lv_iload_n cx.1 cx.2.1 dX1_suits_8 rfl (lv_at hl 1 rfl) ?_
    refine lv_sipush (v := 1000) cx.1 cx.2.1 dX1_suits_9 (by decide) ?_
    refine lv_irem cx.1 cx.2.1 dX1_suits_12 (by decide) ?_
    refine lv_aload_n cx.1 cx.2.1 dX1_suits_13 rfl (lv_at hl 0 rfl) ?_
    refine mg_6 cx hI dX1_suits_14 ?_
    refine lv_icmp_gt (tgt := 24) cx.1 cx.2.1 dX1_suits_17 (by decide) (fun c_2 => ?_) (fun c_2 => ?_)
    · refine lv_iconst (v := 0) cx.1 cx.2.1 dX1_suits_24 (by decide) ?_
      exact ke_z cx hr hlk hI (Nat.zero_le _) (Nat.zero_le _) dX1_suits_25 rfl (congrArg (fun z => some (Value.int z)) (by simp [mSuits, b2i, mRb, c_1, c_2])) rfl
    · refine lv_iconst (v := 1) cx.1 cx.2.1 dX1_suits_20 (by decide) ?_
      refine lv_goto (tgt := 25) cx.1 cx.2.1 dX1_suits_21 (by decide) ?_
      exact ke_z cx hr hlk hI (Nat.zero_le _) (Nat.zero_le _) dX1_suits_25 rfl (congrArg (fun z => some (Value.int z)) (by simp [mSuits, b2i, mRb, c_1, c_2])) rfl
set_option maxHeartbeats 4000000 in
set_option maxRecDepth 100000 in
theorem kX1_altered (l : Launch) (D : va_G) (ca : Nat → ClassId) (ad : Nat → Nat) (v : MS) (row col : Int32) : CM l yX1_altered cX1_altered 5 (some .int) (KR 1 20) D ca (mw ad ca v) [.ref (ad 0), .int row, .int col] (some (.int (mAlt v row col))) (mw ad ca v) := by
  refine CM.of (by decide) (Nat.le_of_ble_eq_true rfl) ?_
  intro p e s m below meth c A ls cx hml hr hlk hI hl
  have hl : lv_has ls 5 [(0, .ref (ad 0)), (1, .int row), (2, .int col)] := hl
  refine lv_iload_n cx.1 cx.2.1 dX1_altered_0 rfl (lv_at hl 1 rfl) ?_
  refine lv_sipush (v := 1000) cx.1 cx.2.1 dX1_altered_1 (by decide) ?_
  refine lv_idiv cx.1 cx.2.1 dX1_altered_4 (by decide) ?_
  refine lv_istore_n (lv' := [(3, .int (row / 1000)), (0, .ref (ad 0)), (1, .int row), (2, .int col)]) cx.1 cx.2.1 dX1_altered_5 rfl hl (by decide) rfl (fun ls hl => ?_)
  refine lv_iload_n cx.1 cx.2.1 dX1_altered_6 rfl (lv_at hl 2 rfl) ?_
  refine lv_sipush (v := 1000) cx.1 cx.2.1 dX1_altered_7 (by decide) ?_
  refine lv_irem cx.1 cx.2.1 dX1_altered_10 (by decide) ?_
  refine lv_istore (lv' := [(4, .int (row - row / 1000 * 1000)), (3, .int (row / 1000)), (0, .ref (ad 0)), (1, .int row), (2, .int col)]) cx.1 cx.2.1 dX1_altered_11 hl (by decide) rfl (fun ls hl => ?_)
  refine lv_aload_n cx.1 cx.2.1 dX1_altered_13 rfl (lv_at hl 2 rfl) ?_
  refine mg_5 cx hI dX1_altered_14 ?_
  refine lv_if_ne (tgt := 46) cx.1 cx.2.1 dX1_altered_17 (by decide) (fun c_1 => ?_) (fun c_1 => ?_)
  · refine lv_aload_n cx.1 cx.2.1 dX1_altered_46 rfl (lv_at hl 2 rfl) ?_
    refine mg_5 cx hI dX1_altered_47 ?_
    refine lv_iconst (v := 1) cx.1 cx.2.1 dX1_altered_50 (by decide) ?_
    refine lv_icmp_ne (tgt := 74) cx.1 cx.2.1 dX1_altered_51 (by decide) (fun c_2 => ?_) (fun c_2 => ?_)
    · refine lv_iload_n cx.1 cx.2.1 dX1_altered_74 rfl (lv_at hl 4 rfl) ?_
      refine lv_if_ne (tgt := 82) cx.1 cx.2.1 dX1_altered_75 (by decide) (fun c_3 => ?_) (fun c_3 => ?_)
      · refine lv_iload_n cx.1 cx.2.1 dX1_altered_82 rfl (lv_at hl 4 rfl) ?_
        refine lv_iconst (v := 1) cx.1 cx.2.1 dX1_altered_83 (by decide) ?_
        refine lv_icmp_ne (tgt := 97) cx.1 cx.2.1 dX1_altered_84 (by decide) (fun c_4 => ?_) (fun c_4 => ?_)
        · refine lv_iload cx.1 cx.2.1 dX1_altered_97 (lv_at hl 0 rfl) ?_
          refine ks_i 1 cx (hl.1.trans hml.symm) (kX1_digits l D ca (row - row / 1000 * 1000)) hI wk_531 wk_529 wk_530 wk_3 ⟨by decide, by decide, by decide +kernel⟩ rfl ⟨rfl, rfl⟩ ⟨Nat.le_of_ble_eq_true rfl, Nat.le_of_ble_eq_true rfl⟩ (Nat.le_of_ble_eq_true rfl) dX1_altered_99 ⟨Nat.zero_le _, Nat.zero_le _⟩ rfl (fun H locs hI => ?_)
          exact ke_i cx hr hlk hI (Nat.zero_le _) (Nat.zero_le _) dX1_altered_102 (congrArg (fun z => some (Value.int z)) (by simp [mAlt, mRa, mRb, c_1, c_2, c_3, c_4])) rfl
        · refine lv_iload cx.1 cx.2.1 dX1_altered_87 (lv_at hl 0 rfl) ?_
          refine lv_aload_n cx.1 cx.2.1 dX1_altered_89 rfl (lv_at hl 2 rfl) ?_
          refine mg_6 cx hI dX1_altered_90 ?_
          refine lv_imul cx.1 cx.2.1 dX1_altered_93 ?_
          refine lv_goto (tgt := 102) cx.1 cx.2.1 dX1_altered_94 (by decide) ?_
          exact ke_i cx hr hlk hI (Nat.zero_le _) (Nat.zero_le _) dX1_altered_102 (congrArg (fun z => some (Value.int z)) (by simp [mAlt, mRa, mRb, c_1, c_2, c_3, c_4])) rfl
      · refine lv_iload_n cx.1 cx.2.1 dX1_altered_78 rfl (lv_at hl 1 rfl) ?_
        refine lv_goto (tgt := 102) cx.1 cx.2.1 dX1_altered_79 (by decide) ?_
        exact ke_i cx hr hlk hI (Nat.zero_le _) (Nat.zero_le _) dX1_altered_102 (congrArg (fun z => some (Value.int z)) (by simp [mAlt, mRa, mRb, c_1, c_2, c_3])) rfl
    · refine lv_iload_n cx.1 cx.2.1 dX1_altered_54 rfl (lv_at hl 4 rfl) ?_
      refine lv_if_ne (tgt := 62) cx.1 cx.2.1 dX1_altered_55 (by decide) (fun c_5 => ?_) (fun c_5 => ?_)
      · refine lv_iload_n cx.1 cx.2.1 dX1_altered_62 rfl (lv_at hl 4 rfl) ?_
        refine lv_iconst (v := 1) cx.1 cx.2.1 dX1_altered_63 (by decide) ?_
        refine lv_icmp_ne (tgt := 72) cx.1 cx.2.1 dX1_altered_64 (by decide) (fun c_6 => ?_) (fun c_6 => ?_)
        · refine lv_iconst (v := 0) cx.1 cx.2.1 dX1_altered_72 (by decide) ?_
          exact ke_i cx hr hlk hI (Nat.zero_le _) (Nat.zero_le _) dX1_altered_73 (congrArg (fun z => some (Value.int z)) (by simp [mAlt, mRa, mRb, c_1, c_2, c_5, c_6])) rfl
        · refine lv_iload cx.1 cx.2.1 dX1_altered_67 (lv_at hl 0 rfl) ?_
          refine lv_goto (tgt := 73) cx.1 cx.2.1 dX1_altered_69 (by decide) ?_
          exact ke_i cx hr hlk hI (Nat.zero_le _) (Nat.zero_le _) dX1_altered_73 (congrArg (fun z => some (Value.int z)) (by simp [mAlt, mRa, mRb, c_1, c_2, c_5, c_6])) rfl
      · refine lv_iload_n cx.1 cx.2.1 dX1_altered_58 rfl (lv_at hl 1 rfl) ?_
        refine lv_goto (tgt := 73) cx.1 cx.2.1 dX1_altered_59 (by decide) ?_
        exact ke_i cx hr hlk hI (Nat.zero_le _) (Nat.zero_le _) dX1_altered_73 (congrArg (fun z => some (Value.int z)) (by simp [mAlt, mRa, mRb, c_1, c_2, c_5])) rfl
  · refine lv_iload_n cx.1 cx.2.1 dX1_altered_20 rfl (lv_at hl 4 rfl) ?_
    refine lv_if_ne (tgt := 31) cx.1 cx.2.1 dX1_altered_21 (by decide) (fun c_7 => ?_) (fun c_7 => ?_)
    · refine lv_iload_n cx.1 cx.2.1 dX1_altered_31 rfl (lv_at hl 4 rfl) ?_
      refine lv_iconst (v := 1) cx.1 cx.2.1 dX1_altered_32 (by decide) ?_
      refine lv_icmp_ne (tgt := 43) cx.1 cx.2.1 dX1_altered_33 (by decide) (fun c_8 => ?_) (fun c_8 => ?_)
      · refine lv_iload cx.1 cx.2.1 dX1_altered_43 (lv_at hl 0 rfl) ?_
        exact ke_i cx hr hlk hI (Nat.zero_le _) (Nat.zero_le _) dX1_altered_45 (congrArg (fun z => some (Value.int z)) (by simp [mAlt, mRa, mRb, c_1, c_7, c_8])) rfl
      · refine lv_iload_n cx.1 cx.2.1 dX1_altered_36 rfl (lv_at hl 1 rfl) ?_
        refine lv_bipush (v := 100) cx.1 cx.2.1 dX1_altered_37 (by decide) ?_
        refine lv_irem cx.1 cx.2.1 dX1_altered_39 (by decide) ?_
        refine lv_goto (tgt := 45) cx.1 cx.2.1 dX1_altered_40 (by decide) ?_
        exact ke_i cx hr hlk hI (Nat.zero_le _) (Nat.zero_le _) dX1_altered_45 (congrArg (fun z => some (Value.int z)) (by simp [mAlt, mRa, mRb, c_1, c_7, c_8])) rfl
    · refine lv_iload_n cx.1 cx.2.1 dX1_altered_24 rfl (lv_at hl 1 rfl) ?_
      refine lv_bipush (v := 100) cx.1 cx.2.1 dX1_altered_25 (by decide) ?_
      refine lv_idiv cx.1 cx.2.1 dX1_altered_27 (by decide) ?_
      refine lv_goto (tgt := 45) cx.1 cx.2.1 dX1_altered_28 (by decide) ?_
      exact ke_i cx hr hlk hI (Nat.zero_le _) (Nat.zero_le _) dX1_altered_45 (congrArg (fun z => some (Value.int z)) (by simp [mAlt, mRa, mRb, c_1, c_7])) rfl
set_option maxHeartbeats 4000000 in
set_option maxRecDepth 100000 in
theorem kX1_isSeen (l : Launch) (D : va_G) (ca : Nat → ClassId) (ad : Nat → Nat) (v : MS) (key : Int32) (hk : vp_in key 40) : CM l yX1_isSeen cX1_isSeen 2 (some .boolean) (KR 0 0) D ca (mw ad ca v) [.ref (ad 0), .int key] (some (.int (b2i (mSeen v key)))) (mw ad ca v) := by
  refine CM.of (by decide) (Nat.le_of_ble_eq_true rfl) ?_
  intro p e s m below meth c A ls cx hml hr hlk hI hl
  have hl : lv_has ls 2 [(0, .ref (ad 0)), (1, .int key)] := hl
  refine lv_aload_n cx.1 cx.2.1 dX1_isSeen_0 rfl (lv_at hl 0 rfl) ?_
  refine mg_0 cx hI dX1_isSeen_1 ?_
  refine lv_iload_n cx.1 cx.2.1 dX1_isSeen_4 rfl (lv_at hl 1 rfl) ?_
  refine ma_O cx hI hk dX1_isSeen_5 ?_
  refine lv_iconst (v := (-1)) cx.1 cx.2.1 dX1_isSeen_6 (by decide) ?_
  refine lv_icmp_eq (tgt := 31) cx.1 cx.2.1 dX1_isSeen_7 (by decide) (fun c_1 => ?_) (fun c_1 => ?_)
  · refine lv_iconst (v := 0) cx.1 cx.2.1 dX1_isSeen_31 (by decide) ?_
    exact ke_z cx hr hlk hI (Nat.zero_le _) (Nat.zero_le _) dX1_isSeen_32 rfl (congrArg (fun z => some (Value.int z)) (by simp [mSeen, b2i, c_1])) rfl
  · refine lv_aload_n cx.1 cx.2.1 dX1_isSeen_10 rfl (lv_at hl 0 rfl) ?_
    refine mg_4 cx hI dX1_isSeen_11 ?_
    refine lv_iconst (v := 2) cx.1 cx.2.1 dX1_isSeen_14 (by decide) ?_
    refine lv_icmp_ne (tgt := 27) cx.1 cx.2.1 dX1_isSeen_15 (by decide) (fun c_2 => ?_) (fun c_2 => ?_)
    · refine lv_iconst (v := 1) cx.1 cx.2.1 dX1_isSeen_27 (by decide) ?_
      refine lv_goto (tgt := 32) cx.1 cx.2.1 dX1_isSeen_28 (by decide) ?_
      exact ke_z cx hr hlk hI (Nat.zero_le _) (Nat.zero_le _) dX1_isSeen_32 rfl (congrArg (fun z => some (Value.int z)) (by simp [mSeen, b2i, c_1, c_2])) rfl
    · refine lv_aload_n cx.1 cx.2.1 dX1_isSeen_18 rfl (lv_at hl 0 rfl) ?_
      refine mg_2 cx hI dX1_isSeen_19 ?_
      refine lv_iload_n cx.1 cx.2.1 dX1_isSeen_22 rfl (lv_at hl 1 rfl) ?_
      refine ma_H cx hI hk dX1_isSeen_23 ?_
      refine lv_if_eq (tgt := 31) cx.1 cx.2.1 dX1_isSeen_24 (by decide) (fun c_3 => ?_) (fun c_3 => ?_)
      · refine lv_iconst (v := 0) cx.1 cx.2.1 dX1_isSeen_31 (by decide) ?_
        exact ke_z cx hr hlk hI (Nat.zero_le _) (Nat.zero_le _) dX1_isSeen_32 rfl (congrArg (fun z => some (Value.int z)) (by simp [mSeen, b2i, c_1, c_2, c_3])) rfl
      · refine lv_iconst (v := 1) cx.1 cx.2.1 dX1_isSeen_27 (by decide) ?_
        refine lv_goto (tgt := 32) cx.1 cx.2.1 dX1_isSeen_28 (by decide) ?_
        exact ke_z cx hr hlk hI (Nat.zero_le _) (Nat.zero_le _) dX1_isSeen_32 rfl (congrArg (fun z => some (Value.int z)) (by simp [mSeen, b2i, c_1, c_2, c_3])) rfl
set_option maxHeartbeats 4000000 in
set_option maxRecDepth 100000 in
theorem kX1_brings (l : Launch) (D : va_G) (ca : Nat → ClassId) (ad : Nat → Nat) (v : MS) (key : Int32) (hk : vp_in key 40) : CM l yX1_brings cX1_brings 3 none (KR 2 44) D ca (mw ad ca v) [.ref (ad 0), .int key] none (mw ad ca (mBrings v key)) := by
  refine CM.of (by decide) (Nat.le_of_ble_eq_true rfl) ?_
  intro p e s m below meth c A ls cx hml hr hlk hI hl
  have hl : lv_has ls 3 [(0, .ref (ad 0)), (1, .int key)] := hl
  refine lv_aload_n cx.1 cx.2.1 dX1_brings_0 rfl (lv_at hl 0 rfl) ?_
  refine mg_2 cx hI dX1_brings_1 ?_
  refine lv_iload_n cx.1 cx.2.1 dX1_brings_4 rfl (lv_at hl 1 rfl) ?_
  refine k_join (D := D) (A := A) 33 (mw ad ca v) [.int (b2i (mDue v key)), .int key, .ref (ad 3)] (fun H locs hI => ?_) (fun hj33 => ?_)
  · refine ms_H cx hI hk dX1_brings_33 (fun H locs hI => ?_)
    have hI : KI D A (mw ad ca (mB1 v key)) s.heap _ _ := hI
    refine lv_aload_n cx.1 cx.2.1 dX1_brings_34 rfl (lv_at hl 0 rfl) ?_
    refine mg_3 cx hI dX1_brings_35 ?_
    refine lv_iload_n cx.1 cx.2.1 dX1_brings_38 rfl (lv_at hl 1 rfl) ?_
    refine k_join (D := D) (A := A) 63 (mw ad ca (mB1 v key)) [.int (b2i (mOutB (mB1 v key) key)), .int key, .ref (ad 4)] (fun H locs hI => ?_) (fun hj63 => ?_)
    · refine ms_F cx hI hk dX1_brings_63 (fun H locs hI => ?_)
      have hI : KI D A (mw ad ca (mB2 v key)) s.heap _ _ := hI
      refine lv_iconst (v := 0) cx.1 cx.2.1 dX1_brings_64 (by decide) ?_
      refine lv_istore_n (lv' := [(2, .int 0), (0, .ref (ad 0)), (1, .int key)]) cx.1 cx.2.1 dX1_brings_65 rfl hl (by decide) rfl (fun ls hl => ?_)
      refine lv_iload_n cx.1 cx.2.1 dX1_brings_66 rfl (lv_at hl 0 rfl) ?_
      refine lv_iconst (v := 3) cx.1 cx.2.1 dX1_brings_67 (by decide) ?_
      refine lv_icmp_ge (tgt := 107) cx.1 cx.2.1 dX1_brings_68 (by decide) (fun h9 => absurd h9 (by decide)) (fun _ => ?_)
      refine lv_aload_n cx.1 cx.2.1 dX1_brings_71 rfl (lv_at hl 1 rfl) ?_
      refine mg_2 cx hI dX1_brings_72 ?_
      refine lv_iload_n cx.1 cx.2.1 dX1_brings_75 rfl (lv_at hl 2 rfl) ?_
      refine ma_H cx hI hk dX1_brings_76 ?_
      refine lv_if_eq (tgt := 107) cx.1 cx.2.1 dX1_brings_77 (by decide) (fun c_2 => ?_) (fun c_2 => ?_)
      · exact ke_v cx hr hlk hI (Nat.zero_le _) (Nat.zero_le _) dX1_brings_107 rfl (congrArg (mw ad ca) (by simp [mBrings, mS3, c_2]))
      · refine lv_aload_n cx.1 cx.2.1 dX1_brings_80 rfl (lv_at hl 1 rfl) ?_
        refine mg_1 cx hI dX1_brings_81 ?_
        refine lv_iconst (v := 3) cx.1 cx.2.1 dX1_brings_84 (by decide) ?_
        refine lv_iload_n cx.1 cx.2.1 dX1_brings_85 rfl (lv_at hl 2 rfl) ?_
        refine lv_imul cx.1 cx.2.1 dX1_brings_86 ?_
        refine lv_iload_n cx.1 cx.2.1 dX1_brings_87 rfl (lv_at hl 0 rfl) ?_
        refine lv_iadd cx.1 cx.2.1 dX1_brings_88 ?_
        refine lv_aload_n cx.1 cx.2.1 dX1_brings_89 rfl (lv_at hl 1 rfl) ?_
        refine lv_aload_n cx.1 cx.2.1 dX1_brings_90 rfl (lv_at hl 1 rfl) ?_
        refine mg_0 cx hI dX1_brings_91 ?_
        refine lv_iload_n cx.1 cx.2.1 dX1_brings_94 rfl (lv_at hl 2 rfl) ?_
        refine ma_O cx hI hk dX1_brings_95 ?_
        refine lv_iload_n cx.1 cx.2.1 dX1_brings_96 rfl (lv_at hl 0 rfl) ?_
        refine mc_i 2 cx (hl.1.trans hml.symm) (kX1_altered l D ca ad (mB2 v key) (mO (mB2 v key) key.toNatClampNeg) 0) hI wk_528 wk_525 wk_527 wq_28 ⟨rfl, by decide +kernel⟩ rfl ⟨rfl, rfl⟩ ⟨Nat.le_of_ble_eq_true rfl, Nat.le_of_ble_eq_true rfl⟩ (Nat.le_of_ble_eq_true rfl) dX1_brings_97 ⟨Nat.zero_le _, Nat.zero_le _⟩ rfl (fun H locs hI => ?_)
        refine ms_S cx hI (kidx hk (vp0 (by decide) (by decide))) dX1_brings_100 (fun H locs hI => ?_)
        have hI : KI D A (mw ad ca (mSt (mB2 v key) key 0)) s.heap _ _ := hI
        refine lv_iinc (v := 1) (lv' := [(2, .int 1), (0, .ref (ad 0)), (1, .int key)]) cx.1 cx.2.1 dX1_brings_101 hl (k := 0) rfl (by decide) (by decide) rfl (fun ls hl => ?_)
        refine lv_goto (tgt := 66) cx.1 cx.2.1 dX1_brings_104 (by decide) ?_
        refine lv_iload_n cx.1 cx.2.1 dX1_brings_66 rfl (lv_at hl 0 rfl) ?_
        refine lv_iconst (v := 3) cx.1 cx.2.1 dX1_brings_67 (by decide) ?_
        refine lv_icmp_ge (tgt := 107) cx.1 cx.2.1 dX1_brings_68 (by decide) (fun h9 => absurd h9 (by decide)) (fun _ => ?_)
        refine lv_aload_n cx.1 cx.2.1 dX1_brings_71 rfl (lv_at hl 1 rfl) ?_
        refine mg_2 cx hI dX1_brings_72 ?_
        refine lv_iload_n cx.1 cx.2.1 dX1_brings_75 rfl (lv_at hl 2 rfl) ?_
        refine ma_H cx hI hk dX1_brings_76 ?_
        refine lv_if_eq (tgt := 107) cx.1 cx.2.1 dX1_brings_77 (by decide) (fun h9 => absurd h9 c_2) (fun _ => ?_)
        refine lv_aload_n cx.1 cx.2.1 dX1_brings_80 rfl (lv_at hl 1 rfl) ?_
        refine mg_1 cx hI dX1_brings_81 ?_
        refine lv_iconst (v := 3) cx.1 cx.2.1 dX1_brings_84 (by decide) ?_
        refine lv_iload_n cx.1 cx.2.1 dX1_brings_85 rfl (lv_at hl 2 rfl) ?_
        refine lv_imul cx.1 cx.2.1 dX1_brings_86 ?_
        refine lv_iload_n cx.1 cx.2.1 dX1_brings_87 rfl (lv_at hl 0 rfl) ?_
        refine lv_iadd cx.1 cx.2.1 dX1_brings_88 ?_
        refine lv_aload_n cx.1 cx.2.1 dX1_brings_89 rfl (lv_at hl 1 rfl) ?_
        refine lv_aload_n cx.1 cx.2.1 dX1_brings_90 rfl (lv_at hl 1 rfl) ?_
        refine mg_0 cx hI dX1_brings_91 ?_
        refine lv_iload_n cx.1 cx.2.1 dX1_brings_94 rfl (lv_at hl 2 rfl) ?_
        refine ma_O cx hI hk dX1_brings_95 ?_
        refine lv_iload_n cx.1 cx.2.1 dX1_brings_96 rfl (lv_at hl 0 rfl) ?_
        refine mc_i 2 cx (hl.1.trans hml.symm) (kX1_altered l D ca ad (mSt (mB2 v key) key 0) (mO (mSt (mB2 v key) key 0) key.toNatClampNeg) 1) hI wk_528 wk_525 wk_527 wq_28 ⟨rfl, by decide +kernel⟩ rfl ⟨rfl, rfl⟩ ⟨Nat.le_of_ble_eq_true rfl, Nat.le_of_ble_eq_true rfl⟩ (Nat.le_of_ble_eq_true rfl) dX1_brings_97 ⟨Nat.zero_le _, Nat.zero_le _⟩ rfl (fun H locs hI => ?_)
        refine ms_S cx hI (kidx hk (vp1 (by decide) (by decide))) dX1_brings_100 (fun H locs hI => ?_)
        have hI : KI D A (mw ad ca (mSt (mSt (mB2 v key) key 0) key 1)) s.heap _ _ := hI
        refine lv_iinc (v := 2) (lv' := [(2, .int 2), (0, .ref (ad 0)), (1, .int key)]) cx.1 cx.2.1 dX1_brings_101 hl (k := 0) rfl (by decide) (by decide) rfl (fun ls hl => ?_)
        refine lv_goto (tgt := 66) cx.1 cx.2.1 dX1_brings_104 (by decide) ?_
        refine lv_iload_n cx.1 cx.2.1 dX1_brings_66 rfl (lv_at hl 0 rfl) ?_
        refine lv_iconst (v := 3) cx.1 cx.2.1 dX1_brings_67 (by decide) ?_
        refine lv_icmp_ge (tgt := 107) cx.1 cx.2.1 dX1_brings_68 (by decide) (fun h9 => absurd h9 (by decide)) (fun _ => ?_)
        refine lv_aload_n cx.1 cx.2.1 dX1_brings_71 rfl (lv_at hl 1 rfl) ?_
        refine mg_2 cx hI dX1_brings_72 ?_
        refine lv_iload_n cx.1 cx.2.1 dX1_brings_75 rfl (lv_at hl 2 rfl) ?_
        refine ma_H cx hI hk dX1_brings_76 ?_
        refine lv_if_eq (tgt := 107) cx.1 cx.2.1 dX1_brings_77 (by decide) (fun h9 => absurd h9 c_2) (fun _ => ?_)
        refine lv_aload_n cx.1 cx.2.1 dX1_brings_80 rfl (lv_at hl 1 rfl) ?_
        refine mg_1 cx hI dX1_brings_81 ?_
        refine lv_iconst (v := 3) cx.1 cx.2.1 dX1_brings_84 (by decide) ?_
        refine lv_iload_n cx.1 cx.2.1 dX1_brings_85 rfl (lv_at hl 2 rfl) ?_
        refine lv_imul cx.1 cx.2.1 dX1_brings_86 ?_
        refine lv_iload_n cx.1 cx.2.1 dX1_brings_87 rfl (lv_at hl 0 rfl) ?_
        refine lv_iadd cx.1 cx.2.1 dX1_brings_88 ?_
        refine lv_aload_n cx.1 cx.2.1 dX1_brings_89 rfl (lv_at hl 1 rfl) ?_
        refine lv_aload_n cx.1 cx.2.1 dX1_brings_90 rfl (lv_at hl 1 rfl) ?_
        refine mg_0 cx hI dX1_brings_91 ?_
        refine lv_iload_n cx.1 cx.2.1 dX1_brings_94 rfl (lv_at hl 2 rfl) ?_
        refine ma_O cx hI hk dX1_brings_95 ?_
        refine lv_iload_n cx.1 cx.2.1 dX1_brings_96 rfl (lv_at hl 0 rfl) ?_
        refine mc_i 2 cx (hl.1.trans hml.symm) (kX1_altered l D ca ad (mSt (mSt (mB2 v key) key 0) key 1) (mO (mSt (mSt (mB2 v key) key 0) key 1) key.toNatClampNeg) 2) hI wk_528 wk_525 wk_527 wq_28 ⟨rfl, by decide +kernel⟩ rfl ⟨rfl, rfl⟩ ⟨Nat.le_of_ble_eq_true rfl, Nat.le_of_ble_eq_true rfl⟩ (Nat.le_of_ble_eq_true rfl) dX1_brings_97 ⟨Nat.zero_le _, Nat.zero_le _⟩ rfl (fun H locs hI => ?_)
        refine ms_S cx hI (kidx hk (vp2 (by decide) (by decide))) dX1_brings_100 (fun H locs hI => ?_)
        have hI : KI D A (mw ad ca (mSt (mSt (mSt (mB2 v key) key 0) key 1) key 2)) s.heap _ _ := hI
        refine lv_iinc (v := 3) (lv' := [(2, .int 3), (0, .ref (ad 0)), (1, .int key)]) cx.1 cx.2.1 dX1_brings_101 hl (k := 0) rfl (by decide) (by decide) rfl (fun ls hl => ?_)
        refine lv_goto (tgt := 66) cx.1 cx.2.1 dX1_brings_104 (by decide) ?_
        refine lv_iload_n cx.1 cx.2.1 dX1_brings_66 rfl (lv_at hl 0 rfl) ?_
        refine lv_iconst (v := 3) cx.1 cx.2.1 dX1_brings_67 (by decide) ?_
        refine lv_icmp_ge (tgt := 107) cx.1 cx.2.1 dX1_brings_68 (by decide) (fun _ => ?_) (fun h9 => absurd (by decide : (3 : Int32) ≤ 3) h9)
        exact ke_v cx hr hlk hI (Nat.zero_le _) (Nat.zero_le _) dX1_brings_107 rfl (congrArg (mw ad ca) (by simp [mBrings, mS3, c_2]))
    ·
      refine lv_aload_n cx.1 cx.2.1 dX1_brings_39 rfl (lv_at hl 0 rfl) ?_
      refine mg_0 cx hI dX1_brings_40 ?_
      refine lv_iload_n cx.1 cx.2.1 dX1_brings_43 rfl (lv_at hl 1 rfl) ?_
      refine ma_O cx hI hk dX1_brings_44 ?_
      refine lv_iconst (v := (-1)) cx.1 cx.2.1 dX1_brings_45 (by decide) ?_
      refine lv_icmp_eq (tgt := 62) cx.1 cx.2.1 dX1_brings_46 (by decide) (fun c_8 => ?_) (fun c_8 => ?_)
      · refine lv_iconst (v := 0) cx.1 cx.2.1 dX1_brings_62 (by decide) ?_
        exact k_top (by first | (simp [mBrings, mS3, c_8, mOutB, b2i]; done) | (simp [mBrings, mS3, mOutB, b2i]; exact fun h => absurd c_8 h)) (hj63 _ _ hI)
      · refine lv_aload_n cx.1 cx.2.1 dX1_brings_49 rfl (lv_at hl 0 rfl) ?_
        refine mg_2 cx hI dX1_brings_50 ?_
        refine lv_iload_n cx.1 cx.2.1 dX1_brings_53 rfl (lv_at hl 1 rfl) ?_
        refine ma_H cx hI hk dX1_brings_54 ?_
        refine lv_if_ne (tgt := 62) cx.1 cx.2.1 dX1_brings_55 (by decide) (fun c_9 => ?_) (fun c_9 => ?_)
        · refine lv_iconst (v := 0) cx.1 cx.2.1 dX1_brings_62 (by decide) ?_
          exact k_top (by first | (simp [mBrings, mS3, c_8, c_9, mOutB, b2i]; done) | (simp [mBrings, mS3, c_8, mOutB, b2i]; exact fun h => absurd c_9 h)) (hj63 _ _ hI)
        · refine lv_iconst (v := 1) cx.1 cx.2.1 dX1_brings_58 (by decide) ?_
          refine lv_goto (tgt := 63) cx.1 cx.2.1 dX1_brings_59 (by decide) ?_
          exact k_top (by first | (simp [mBrings, mS3, c_8, c_9, mOutB, b2i]; done) | (simp [mBrings, mS3, c_8, mOutB, b2i]; exact fun h => absurd c_9 h)) (hj63 _ _ hI)
  ·
    refine lv_aload_n cx.1 cx.2.1 dX1_brings_5 rfl (lv_at hl 0 rfl) ?_
    refine mg_0 cx hI dX1_brings_6 ?_
    refine lv_iload_n cx.1 cx.2.1 dX1_brings_9 rfl (lv_at hl 1 rfl) ?_
    refine ma_O cx hI hk dX1_brings_10 ?_
    refine lv_iconst (v := (-1)) cx.1 cx.2.1 dX1_brings_11 (by decide) ?_
    refine lv_icmp_eq (tgt := 32) cx.1 cx.2.1 dX1_brings_12 (by decide) (fun c_10 => ?_) (fun c_10 => ?_)
    · refine lv_iconst (v := 0) cx.1 cx.2.1 dX1_brings_32 (by decide) ?_
      exact k_top (by first | (simp [mBrings, mS3, c_10, mDue, b2i]; done) | (simp [mBrings, mS3, mDue, b2i]; exact fun h => absurd c_10 h)) (hj33 _ _ hI)
    · refine lv_aload_n cx.1 cx.2.1 dX1_brings_15 rfl (lv_at hl 0 rfl) ?_
      refine lv_aload_n cx.1 cx.2.1 dX1_brings_16 rfl (lv_at hl 0 rfl) ?_
      refine mg_0 cx hI dX1_brings_17 ?_
      refine lv_iload_n cx.1 cx.2.1 dX1_brings_20 rfl (lv_at hl 1 rfl) ?_
      refine ma_O cx hI hk dX1_brings_21 ?_
      refine mc_i 1 cx (hl.1.trans hml.symm) (kX1_suits l D ca ad v (mO v key.toNatClampNeg)) hI wk_504 wk_501 wk_503 wq_22 ⟨rfl, by decide +kernel⟩ rfl ⟨rfl, rfl⟩ ⟨Nat.le_of_ble_eq_true rfl, Nat.le_of_ble_eq_true rfl⟩ (Nat.le_of_ble_eq_true rfl) dX1_brings_22 ⟨Nat.zero_le _, Nat.zero_le _⟩ rfl (fun H locs hI => ?_)
      refine kb_eq (tgt := 32) cx dX1_brings_25 (by decide) (fun c_11 => ?_) (fun c_11 => ?_)
      · refine lv_iconst (v := 0) cx.1 cx.2.1 dX1_brings_32 (by decide) ?_
        exact k_top (by first | (simp [mBrings, mS3, c_10, c_11, mDue, b2i]; done) | (simp [mBrings, mS3, c_10, mDue, b2i]; exact fun h => absurd c_11 h)) (hj33 _ _ hI)
      · refine lv_iconst (v := 1) cx.1 cx.2.1 dX1_brings_28 (by decide) ?_
        refine lv_goto (tgt := 33) cx.1 cx.2.1 dX1_brings_29 (by decide) ?_
        exact k_top (by first | (simp [mBrings, mS3, c_10, c_11, mDue, b2i]; done) | (simp [mBrings, mS3, c_10, mDue, b2i]; exact fun h => absurd c_11 h)) (hj33 _ _ hI)
set_option maxHeartbeats 4000000 in
set_option maxRecDepth 100000 in
theorem kX1_wrote (l : Launch) (D : va_G) (ca : Nat → ClassId) (ad : Nat → Nat) (v : MS) (key : Int32) (hk : vp_in key 40) (h0 : vp_in (mc v) 2000) : CM l yX1_wrote cX1_wrote 2 none (KR 3 66) D ca (mw ad ca v) [.ref (ad 0), .int key] none (mw ad ca (mWrote v key)) := by
  refine CM.of (by decide) (Nat.le_of_ble_eq_true rfl) ?_
  intro p e s m below meth c A ls cx hml hr hlk hI hl
  have hl : lv_has ls 2 [(0, .ref (ad 0)), (1, .int key)] := hl
  refine lv_aload_n cx.1 cx.2.1 dX1_wrote_0 rfl (lv_at hl 0 rfl) ?_
  refine mg_4 cx hI dX1_wrote_1 ?_
  refine lv_iconst (v := 1) cx.1 cx.2.1 dX1_wrote_4 (by decide) ?_
  refine lv_icmp_ne (tgt := 31) cx.1 cx.2.1 dX1_wrote_5 (by decide) (fun c_1 => ?_) (fun c_1 => ?_)
  · refine lv_aload_n cx.1 cx.2.1 dX1_wrote_31 rfl (lv_at hl 0 rfl) ?_
    refine mg_4 cx hI dX1_wrote_32 ?_
    refine lv_iconst (v := 2) cx.1 cx.2.1 dX1_wrote_35 (by decide) ?_
    refine lv_icmp_ne (tgt := 44) cx.1 cx.2.1 dX1_wrote_36 (by decide) (fun c_2 => ?_) (fun c_2 => ?_)
    · exact ke_v cx hr hlk hI (Nat.zero_le _) (Nat.zero_le _) dX1_wrote_44 rfl (congrArg (mw ad ca) (by simp [mWrote, mNote, c_1, c_2]))
    · refine lv_aload_n cx.1 cx.2.1 dX1_wrote_39 rfl (lv_at hl 0 rfl) ?_
      refine lv_iload_n cx.1 cx.2.1 dX1_wrote_40 rfl (lv_at hl 1 rfl) ?_
      refine mc_v 1 cx (hl.1.trans hml.symm) (kX1_brings l D ca ad v key hk) hI wk_524 wk_521 wk_523 wq_27 ⟨rfl, by decide +kernel⟩ rfl ⟨rfl, rfl⟩ ⟨Nat.le_of_ble_eq_true rfl, Nat.le_of_ble_eq_true rfl⟩ (Nat.le_of_ble_eq_true rfl) dX1_wrote_41 ⟨Nat.zero_le _, Nat.zero_le _⟩ rfl (fun H locs hI => ?_)
      exact ke_v cx hr hlk hI (Nat.zero_le _) (Nat.zero_le _) dX1_wrote_44 rfl (congrArg (mw ad ca) (by simp [mWrote, mNote, c_1, c_2]))
  · refine lv_aload_n cx.1 cx.2.1 dX1_wrote_8 rfl (lv_at hl 0 rfl) ?_
    refine mg_11 cx hI dX1_wrote_9 ?_
    refine lv_aload_n cx.1 cx.2.1 dX1_wrote_12 rfl (lv_at hl 0 rfl) ?_
    refine mg_10 cx hI dX1_wrote_13 ?_
    refine lv_iload_n cx.1 cx.2.1 dX1_wrote_16 rfl (lv_at hl 1 rfl) ?_
    refine ms_N cx hI h0 dX1_wrote_17 (fun H locs hI => ?_)
    refine lv_aload_n cx.1 cx.2.1 dX1_wrote_18 rfl (lv_at hl 0 rfl) ?_
    refine lv_dup cx.1 cx.2.1 dX1_wrote_19 rfl ?_
    refine mg_10 cx hI dX1_wrote_20 ?_
    refine lv_iconst (v := 1) cx.1 cx.2.1 dX1_wrote_23 (by decide) ?_
    refine lv_iadd cx.1 cx.2.1 dX1_wrote_24 ?_
    refine mp_10 cx hI dX1_wrote_25 (fun H locs hI => ?_)
    refine lv_goto (tgt := 44) cx.1 cx.2.1 dX1_wrote_28 (by decide) ?_
    exact ke_v cx hr hlk hI (Nat.zero_le _) (Nat.zero_le _) dX1_wrote_44 rfl (congrArg (mw ad ca) (by simp [mWrote, mNote, c_1]))
set_option maxHeartbeats 4000000 in
set_option maxRecDepth 100000 in
theorem kX1_writes (l : Launch) (D : va_G) (ca : Nat → ClassId) (ad : Nat → Nat) (v : MS) (key row : Int32) (hk : vp_in key 40) (h0 : vp_in (mc v) 2000) : CM l yX1_writes cX1_writes 3 none (KR 4 87) D ca (mw ad ca v) [.ref (ad 0), .int key, .int row] none (mw ad ca (mWrites v key row)) := by
  refine CM.of (by decide) (Nat.le_of_ble_eq_true rfl) ?_
  intro p e s m below meth c A ls cx hml hr hlk hI hl
  have hl : lv_has ls 3 [(0, .ref (ad 0)), (1, .int key), (2, .int row)] := hl
  refine lv_aload_n cx.1 cx.2.1 dX1_writes_0 rfl (lv_at hl 0 rfl) ?_
  refine mg_0 cx hI dX1_writes_1 ?_
  refine lv_iload_n cx.1 cx.2.1 dX1_writes_4 rfl (lv_at hl 1 rfl) ?_
  refine lv_iload_n cx.1 cx.2.1 dX1_writes_5 rfl (lv_at hl 2 rfl) ?_
  refine ms_O cx hI hk dX1_writes_6 (fun H locs hI => ?_)
  refine lv_aload_n cx.1 cx.2.1 dX1_writes_7 rfl (lv_at hl 0 rfl) ?_
  refine lv_iload_n cx.1 cx.2.1 dX1_writes_8 rfl (lv_at hl 1 rfl) ?_
  refine mc_v 1 cx (hl.1.trans hml.symm) (kX1_wrote l D ca ad (mUO v (upd (mO v) key.toNatClampNeg row)) key hk h0) hI wk_520 wk_517 wk_519 wq_26 ⟨rfl, by decide +kernel⟩ rfl ⟨rfl, rfl⟩ ⟨Nat.le_of_ble_eq_true rfl, Nat.le_of_ble_eq_true rfl⟩ (Nat.le_of_ble_eq_true rfl) dX1_writes_9 ⟨Nat.zero_le _, Nat.zero_le _⟩ rfl (fun H locs hI => ?_)
  exact ke_v cx hr hlk hI (Nat.zero_le _) (Nat.zero_le _) dX1_writes_12 rfl (congrArg (mw ad ca) (by simp [mWrites]))
set_option maxHeartbeats 4000000 in
set_option maxRecDepth 100000 in
theorem kX1_faultOf (l : Launch) (D : va_G) (ca : Nat → ClassId) (ad : Nat → Nat) (v : MS) (key a b : Int32) : CM l yX1_faultOf cX1_faultOf 5 (some .int) (KR 2 42) D ca (mw ad ca v) [.ref (ad 0), .int key, .int a, .int b] (some (.int (mFault v key a b))) (mw ad ca v) := by
  refine CM.of (by decide) (Nat.le_of_ble_eq_true rfl) ?_
  intro p e s m below meth c A ls cx hml hr hlk hI hl
  have hl : lv_has ls 5 [(0, .ref (ad 0)), (1, .int key), (2, .int a), (3, .int b)] := hl
  refine k_join (D := D) (A := A) 27 (mw ad ca v) [.int (b2i (xWithin a 0 999 && xWithin b 0 999))] (fun H locs hI => ?_) (fun hj27 => ?_)
  · refine lv_istore (lv' := [(4, .int (b2i (xWithin a 0 999 && xWithin b 0 999))), (0, .ref (ad 0)), (1, .int key), (2, .int a), (3, .int b)]) cx.1 cx.2.1 dX1_faultOf_27 hl (by decide) rfl (fun ls hl => ?_)
    refine lv_iload_n cx.1 cx.2.1 dX1_faultOf_29 rfl (lv_at hl 2 rfl) ?_
    refine ks_i 1 cx (hl.1.trans hml.symm) (kX1_isKey l D ca key) hI wk_500 wk_498 wk_499 wk_3 ⟨by decide, by decide, by decide +kernel⟩ rfl ⟨rfl, rfl⟩ ⟨Nat.le_of_ble_eq_true rfl, Nat.le_of_ble_eq_true rfl⟩ (Nat.le_of_ble_eq_true rfl) dX1_faultOf_30 ⟨Nat.zero_le _, Nat.zero_le _⟩ rfl (fun H locs hI => ?_)
    refine kb_ne (tgt := 40) cx dX1_faultOf_33 (by decide) (fun c_1 => ?_) (fun c_1 => ?_)
    · refine lv_iload cx.1 cx.2.1 dX1_faultOf_40 (lv_at hl 0 rfl) ?_
      refine kb_eq (tgt := 67) cx dX1_faultOf_42 (by decide) (fun c_2 => ?_) (fun c_2 => ?_)
      · refine lv_iconst (v := 2) cx.1 cx.2.1 dX1_faultOf_67 (by decide) ?_
        refine lv_goto (tgt := 72) cx.1 cx.2.1 dX1_faultOf_68 (by decide) ?_
        exact ke_i cx hr hlk hI (Nat.zero_le _) (Nat.zero_le _) dX1_faultOf_72 (congrArg (fun z => some (Value.int z)) (by simp [mFault, c_1, c_2])) rfl
      · refine lv_aload_n cx.1 cx.2.1 dX1_faultOf_45 rfl (lv_at hl 1 rfl) ?_
        refine mg_4 cx hI dX1_faultOf_46 ?_
        refine lv_iconst (v := 2) cx.1 cx.2.1 dX1_faultOf_49 (by decide) ?_
        refine lv_icmp_ne (tgt := 71) cx.1 cx.2.1 dX1_faultOf_50 (by decide) (fun c_3 => ?_) (fun c_3 => ?_)
        · refine lv_iconst (v := 0) cx.1 cx.2.1 dX1_faultOf_71 (by decide) ?_
          exact ke_i cx hr hlk hI (Nat.zero_le _) (Nat.zero_le _) dX1_faultOf_72 (congrArg (fun z => some (Value.int z)) (by simp [mFault, c_1, c_2, c_3])) rfl
        · refine lv_aload_n cx.1 cx.2.1 dX1_faultOf_53 rfl (lv_at hl 1 rfl) ?_
          refine lv_sipush (v := 1000) cx.1 cx.2.1 dX1_faultOf_54 (by decide) ?_
          refine lv_iload_n cx.1 cx.2.1 dX1_faultOf_57 rfl (lv_at hl 3 rfl) ?_
          refine lv_imul cx.1 cx.2.1 dX1_faultOf_58 ?_
          refine lv_iload_n cx.1 cx.2.1 dX1_faultOf_59 rfl (lv_at hl 4 rfl) ?_
          refine lv_iadd cx.1 cx.2.1 dX1_faultOf_60 ?_
          refine mc_i 1 cx (hl.1.trans hml.symm) (kX1_suits l D ca ad v ((1000 * a) + b)) hI wk_504 wk_501 wk_503 wq_22 ⟨rfl, by decide +kernel⟩ rfl ⟨rfl, rfl⟩ ⟨Nat.le_of_ble_eq_true rfl, Nat.le_of_ble_eq_true rfl⟩ (Nat.le_of_ble_eq_true rfl) dX1_faultOf_61 ⟨Nat.zero_le _, Nat.zero_le _⟩ rfl (fun H locs hI => ?_)
          refine kb_ne (tgt := 71) cx dX1_faultOf_64 (by decide) (fun c_4 => ?_) (fun c_4 => ?_)
          · refine lv_iconst (v := 0) cx.1 cx.2.1 dX1_faultOf_71 (by decide) ?_
            exact ke_i cx hr hlk hI (Nat.zero_le _) (Nat.zero_le _) dX1_faultOf_72 (congrArg (fun z => some (Value.int z)) (by simp [mFault, c_1, c_2, c_3, c_4])) rfl
          · refine lv_iconst (v := 2) cx.1 cx.2.1 dX1_faultOf_67 (by decide) ?_
            refine lv_goto (tgt := 72) cx.1 cx.2.1 dX1_faultOf_68 (by decide) ?_
            exact ke_i cx hr hlk hI (Nat.zero_le _) (Nat.zero_le _) dX1_faultOf_72 (congrArg (fun z => some (Value.int z)) (by simp [mFault, c_1, c_2, c_3, c_4])) rfl
    · refine lv_iconst (v := 1) cx.1 cx.2.1 dX1_faultOf_36 (by decide) ?_
      refine lv_goto (tgt := 72) cx.1 cx.2.1 dX1_faultOf_37 (by decide) ?_
      exact ke_i cx hr hlk hI (Nat.zero_le _) (Nat.zero_le _) dX1_faultOf_72 (congrArg (fun z => some (Value.int z)) (by simp [mFault, c_1])) rfl
  ·
    refine lv_iload_n cx.1 cx.2.1 dX1_faultOf_0 rfl (lv_at hl 2 rfl) ?_
    refine lv_iconst (v := 0) cx.1 cx.2.1 dX1_faultOf_1 (by decide) ?_
    refine lv_sipush (v := 999) cx.1 cx.2.1 dX1_faultOf_2 (by decide) ?_
    refine ks_i 3 cx (hl.1.trans hml.symm) (kX1_isIn l D ca a 0 999) hI wk_497 wk_495 wk_496 wk_3 ⟨by decide, by decide, by decide +kernel⟩ rfl ⟨rfl, rfl⟩ ⟨Nat.le_of_ble_eq_true rfl, Nat.le_of_ble_eq_true rfl⟩ (Nat.le_of_ble_eq_true rfl) dX1_faultOf_5 ⟨Nat.zero_le _, Nat.zero_le _⟩ rfl (fun H locs hI => ?_)
    refine kb_eq (tgt := 26) cx dX1_faultOf_8 (by decide) (fun c_5 => ?_) (fun c_5 => ?_)
    · refine lv_iconst (v := 0) cx.1 cx.2.1 dX1_faultOf_26 (by decide) ?_
      exact k_top (by first | (simp [mFault, c_5, b2i]; done) | (simp [mFault, b2i]; exact fun h => absurd c_5 h)) (hj27 _ _ hI)
    · refine lv_iload_n cx.1 cx.2.1 dX1_faultOf_11 rfl (lv_at hl 3 rfl) ?_
      refine lv_iconst (v := 0) cx.1 cx.2.1 dX1_faultOf_12 (by decide) ?_
      refine lv_sipush (v := 999) cx.1 cx.2.1 dX1_faultOf_13 (by decide) ?_
      refine ks_i 3 cx (hl.1.trans hml.symm) (kX1_isIn l D ca b 0 999) hI wk_497 wk_495 wk_496 wk_3 ⟨by decide, by decide, by decide +kernel⟩ rfl ⟨rfl, rfl⟩ ⟨Nat.le_of_ble_eq_true rfl, Nat.le_of_ble_eq_true rfl⟩ (Nat.le_of_ble_eq_true rfl) dX1_faultOf_16 ⟨Nat.zero_le _, Nat.zero_le _⟩ rfl (fun H locs hI => ?_)
      refine kb_eq (tgt := 26) cx dX1_faultOf_19 (by decide) (fun c_6 => ?_) (fun c_6 => ?_)
      · refine lv_iconst (v := 0) cx.1 cx.2.1 dX1_faultOf_26 (by decide) ?_
        exact k_top (by first | (simp [mFault, c_5, c_6, b2i]; done) | (simp [mFault, c_5, b2i]; exact fun h => absurd c_6 h)) (hj27 _ _ hI)
      · refine lv_iconst (v := 1) cx.1 cx.2.1 dX1_faultOf_22 (by decide) ?_
        refine lv_goto (tgt := 27) cx.1 cx.2.1 dX1_faultOf_23 (by decide) ?_
        exact k_top (by first | (simp [mFault, c_5, c_6, b2i]; done) | (simp [mFault, c_5, b2i]; exact fun h => absurd c_6 h)) (hj27 _ _ hI)
end
section
set_option maxHeartbeats 4000000 in
set_option maxRecDepth 100000 in
theorem kX1_insert (l : Launch) (D : va_G) (ca : Nat → ClassId) (ad : Nat → Nat) (v : MS) (key a b : Int32) (h0 : vp_in (mc v) 2000) : CM l yX1_insert cX1_insert 5 none (KR 5 109) D ca (mw ad ca v) [.ref (ad 0), .int key, .int a, .int b] none (mw ad ca (mInsert v key a b)) := by
  refine CM.of (by decide) (Nat.le_of_ble_eq_true rfl) ?_
  intro p e s m below meth c A ls cx hml hr hlk hI hl
  have hl : lv_has ls 5 [(0, .ref (ad 0)), (1, .int key), (2, .int a), (3, .int b)] := hl
  refine lv_aload_n cx.1 cx.2.1 dX1_insert_0 rfl (lv_at hl 0 rfl) ?_
  refine lv_iload_n cx.1 cx.2.1 dX1_insert_1 rfl (lv_at hl 1 rfl) ?_
  refine lv_iload_n cx.1 cx.2.1 dX1_insert_2 rfl (lv_at hl 2 rfl) ?_
  refine lv_iload_n cx.1 cx.2.1 dX1_insert_3 rfl (lv_at hl 3 rfl) ?_
  refine mc_i 3 cx (hl.1.trans hml.symm) (kX1_faultOf l D ca ad v key a b) hI wk_494 wk_491 wk_493 wq_21 ⟨rfl, by decide +kernel⟩ rfl ⟨rfl, rfl⟩ ⟨Nat.le_of_ble_eq_true rfl, Nat.le_of_ble_eq_true rfl⟩ (Nat.le_of_ble_eq_true rfl) dX1_insert_4 ⟨Nat.zero_le _, Nat.zero_le _⟩ rfl (fun H locs hI => ?_)
  refine lv_istore (lv' := [(4, .int (mFault v key a b)), (0, .ref (ad 0)), (1, .int key), (2, .int a), (3, .int b)]) cx.1 cx.2.1 dX1_insert_7 hl (by decide) rfl (fun ls hl => ?_)
  refine lv_aload_n cx.1 cx.2.1 dX1_insert_9 rfl (lv_at hl 1 rfl) ?_
  refine k_join (D := D) (A := A) 33 (mw ad ca v) [.int (mfInsert v key a b), .ref (ad 0)] (fun H locs hI => ?_) (fun hj33 => ?_)
  · refine mc_i 1 cx (hl.1.trans hml.symm) (kX1_can l D ca ad v (mfInsert v key a b)) hI wk_512 wk_509 wk_511 wq_24 ⟨rfl, by decide +kernel⟩ rfl ⟨rfl, rfl⟩ ⟨Nat.le_of_ble_eq_true rfl, Nat.le_of_ble_eq_true rfl⟩ (Nat.le_of_ble_eq_true rfl) dX1_insert_33 ⟨Nat.zero_le _, Nat.zero_le _⟩ rfl (fun H locs hI => ?_)
    refine kb_eq (tgt := 51) cx dX1_insert_36 (by decide) (fun c_1 => ?_) (fun c_1 => ?_)
    · exact ke_v cx hr hlk hI (Nat.zero_le _) (Nat.zero_le _) dX1_insert_51 rfl (congrArg (mw ad ca) (by simp [mInsert, (of_decide_eq_false c_1)]))
    · have hk := mfInsert_in c_1
      refine lv_aload_n cx.1 cx.2.1 dX1_insert_39 rfl (lv_at hl 1 rfl) ?_
      refine lv_iload_n cx.1 cx.2.1 dX1_insert_40 rfl (lv_at hl 2 rfl) ?_
      refine lv_sipush (v := 1000) cx.1 cx.2.1 dX1_insert_41 (by decide) ?_
      refine lv_iload_n cx.1 cx.2.1 dX1_insert_44 rfl (lv_at hl 3 rfl) ?_
      refine lv_imul cx.1 cx.2.1 dX1_insert_45 ?_
      refine lv_iload_n cx.1 cx.2.1 dX1_insert_46 rfl (lv_at hl 4 rfl) ?_
      refine lv_iadd cx.1 cx.2.1 dX1_insert_47 ?_
      refine mc_v 2 cx (hl.1.trans hml.symm) (kX1_writes l D ca ad (mUz v (mfInsert v key a b)) key ((1000 * a) + b) hk h0) hI wk_516 wk_513 wk_515 wq_25 ⟨rfl, by decide +kernel⟩ rfl ⟨rfl, rfl⟩ ⟨Nat.le_of_ble_eq_true rfl, Nat.le_of_ble_eq_true rfl⟩ (Nat.le_of_ble_eq_true rfl) dX1_insert_48 ⟨Nat.zero_le _, Nat.zero_le _⟩ rfl (fun H locs hI => ?_)
      exact ke_v cx hr hlk hI (Nat.zero_le _) (Nat.zero_le _) dX1_insert_51 rfl (congrArg (mw ad ca) (by simp [mInsert, (of_decide_eq_true c_1)]))
  ·
    refine lv_iload cx.1 cx.2.1 dX1_insert_10 (lv_at hl 0 rfl) ?_
    refine lv_if_le (tgt := 20) cx.1 cx.2.1 dX1_insert_12 (by decide) (fun c_2 => ?_) (fun c_2 => ?_)
    · have hk := mFault_in c_2
      refine lv_aload_n cx.1 cx.2.1 dX1_insert_20 rfl (lv_at hl 1 rfl) ?_
      refine lv_iload_n cx.1 cx.2.1 dX1_insert_21 rfl (lv_at hl 2 rfl) ?_
      refine mc_i 1 cx (hl.1.trans hml.symm) (kX1_isSeen l D ca ad v key hk) hI wk_508 wk_505 wk_507 wq_23 ⟨rfl, by decide +kernel⟩ rfl ⟨rfl, rfl⟩ ⟨Nat.le_of_ble_eq_true rfl, Nat.le_of_ble_eq_true rfl⟩ (Nat.le_of_ble_eq_true rfl) dX1_insert_22 ⟨Nat.zero_le _, Nat.zero_le _⟩ rfl (fun H locs hI => ?_)
      refine kb_eq (tgt := 32) cx dX1_insert_25 (by decide) (fun c_3 => ?_) (fun c_3 => ?_)
      · refine lv_iconst (v := 0) cx.1 cx.2.1 dX1_insert_32 (by decide) ?_
        exact k_top (by first | (simp [mInsert, c_2, c_3, mfInsert]; done) | (simp [mInsert, c_2, mfInsert]; exact fun h => absurd c_3 h)) (hj33 _ _ hI)
      · refine lv_iconst (v := 3) cx.1 cx.2.1 dX1_insert_28 (by decide) ?_
        refine lv_goto (tgt := 33) cx.1 cx.2.1 dX1_insert_29 (by decide) ?_
        exact k_top (by first | (simp [mInsert, c_2, c_3, mfInsert]; done) | (simp [mInsert, c_2, mfInsert]; exact fun h => absurd c_3 h)) (hj33 _ _ hI)
    · refine lv_iload cx.1 cx.2.1 dX1_insert_15 (lv_at hl 0 rfl) ?_
      refine lv_goto (tgt := 33) cx.1 cx.2.1 dX1_insert_17 (by decide) ?_
      exact k_top (by first | (simp [mInsert, c_2, mfInsert]; done) | (simp [mInsert, mfInsert]; exact fun h => absurd c_2 h)) (hj33 _ _ hI)
set_option maxHeartbeats 4000000 in
set_option maxRecDepth 100000 in
theorem kX1_update (l : Launch) (D : va_G) (ca : Nat → ClassId) (ad : Nat → Nat) (v : MS) (key a b : Int32) (h0 : vp_in (mc v) 2000) : CM l yX1_update cX1_update 5 none (KR 5 109) D ca (mw ad ca v) [.ref (ad 0), .int key, .int a, .int b] none (mw ad ca (mUpdate v key a b)) := by
  refine CM.of (by decide) (Nat.le_of_ble_eq_true rfl) ?_
  intro p e s m below meth c A ls cx hml hr hlk hI hl
  have hl : lv_has ls 5 [(0, .ref (ad 0)), (1, .int key), (2, .int a), (3, .int b)] := hl
  refine lv_aload_n cx.1 cx.2.1 dX1_update_0 rfl (lv_at hl 0 rfl) ?_
  refine lv_iload_n cx.1 cx.2.1 dX1_update_1 rfl (lv_at hl 1 rfl) ?_
  refine lv_iload_n cx.1 cx.2.1 dX1_update_2 rfl (lv_at hl 2 rfl) ?_
  refine lv_iload_n cx.1 cx.2.1 dX1_update_3 rfl (lv_at hl 3 rfl) ?_
  refine mc_i 3 cx (hl.1.trans hml.symm) (kX1_faultOf l D ca ad v key a b) hI wk_494 wk_491 wk_493 wq_21 ⟨rfl, by decide +kernel⟩ rfl ⟨rfl, rfl⟩ ⟨Nat.le_of_ble_eq_true rfl, Nat.le_of_ble_eq_true rfl⟩ (Nat.le_of_ble_eq_true rfl) dX1_update_4 ⟨Nat.zero_le _, Nat.zero_le _⟩ rfl (fun H locs hI => ?_)
  refine lv_istore (lv' := [(4, .int (mFault v key a b)), (0, .ref (ad 0)), (1, .int key), (2, .int a), (3, .int b)]) cx.1 cx.2.1 dX1_update_7 hl (by decide) rfl (fun ls hl => ?_)
  refine lv_aload_n cx.1 cx.2.1 dX1_update_9 rfl (lv_at hl 1 rfl) ?_
  refine k_join (D := D) (A := A) 33 (mw ad ca v) [.int (mfUpdate v key a b), .ref (ad 0)] (fun H locs hI => ?_) (fun hj33 => ?_)
  · refine mc_i 1 cx (hl.1.trans hml.symm) (kX1_can l D ca ad v (mfUpdate v key a b)) hI wk_512 wk_509 wk_511 wq_24 ⟨rfl, by decide +kernel⟩ rfl ⟨rfl, rfl⟩ ⟨Nat.le_of_ble_eq_true rfl, Nat.le_of_ble_eq_true rfl⟩ (Nat.le_of_ble_eq_true rfl) dX1_update_33 ⟨Nat.zero_le _, Nat.zero_le _⟩ rfl (fun H locs hI => ?_)
    refine kb_eq (tgt := 51) cx dX1_update_36 (by decide) (fun c_1 => ?_) (fun c_1 => ?_)
    · exact ke_v cx hr hlk hI (Nat.zero_le _) (Nat.zero_le _) dX1_update_51 rfl (congrArg (mw ad ca) (by simp [mUpdate, (of_decide_eq_false c_1)]))
    · have hk := mfUpdate_in c_1
      refine lv_aload_n cx.1 cx.2.1 dX1_update_39 rfl (lv_at hl 1 rfl) ?_
      refine lv_iload_n cx.1 cx.2.1 dX1_update_40 rfl (lv_at hl 2 rfl) ?_
      refine lv_sipush (v := 1000) cx.1 cx.2.1 dX1_update_41 (by decide) ?_
      refine lv_iload_n cx.1 cx.2.1 dX1_update_44 rfl (lv_at hl 3 rfl) ?_
      refine lv_imul cx.1 cx.2.1 dX1_update_45 ?_
      refine lv_iload_n cx.1 cx.2.1 dX1_update_46 rfl (lv_at hl 4 rfl) ?_
      refine lv_iadd cx.1 cx.2.1 dX1_update_47 ?_
      refine mc_v 2 cx (hl.1.trans hml.symm) (kX1_writes l D ca ad (mUz v (mfUpdate v key a b)) key ((1000 * a) + b) hk h0) hI wk_516 wk_513 wk_515 wq_25 ⟨rfl, by decide +kernel⟩ rfl ⟨rfl, rfl⟩ ⟨Nat.le_of_ble_eq_true rfl, Nat.le_of_ble_eq_true rfl⟩ (Nat.le_of_ble_eq_true rfl) dX1_update_48 ⟨Nat.zero_le _, Nat.zero_le _⟩ rfl (fun H locs hI => ?_)
      exact ke_v cx hr hlk hI (Nat.zero_le _) (Nat.zero_le _) dX1_update_51 rfl (congrArg (mw ad ca) (by simp [mUpdate, (of_decide_eq_true c_1)]))
  ·
    refine lv_iload cx.1 cx.2.1 dX1_update_10 (lv_at hl 0 rfl) ?_
    refine lv_if_le (tgt := 20) cx.1 cx.2.1 dX1_update_12 (by decide) (fun c_2 => ?_) (fun c_2 => ?_)
    · have hk := mFault_in c_2
      refine lv_aload_n cx.1 cx.2.1 dX1_update_20 rfl (lv_at hl 1 rfl) ?_
      refine lv_iload_n cx.1 cx.2.1 dX1_update_21 rfl (lv_at hl 2 rfl) ?_
      refine mc_i 1 cx (hl.1.trans hml.symm) (kX1_isSeen l D ca ad v key hk) hI wk_508 wk_505 wk_507 wq_23 ⟨rfl, by decide +kernel⟩ rfl ⟨rfl, rfl⟩ ⟨Nat.le_of_ble_eq_true rfl, Nat.le_of_ble_eq_true rfl⟩ (Nat.le_of_ble_eq_true rfl) dX1_update_22 ⟨Nat.zero_le _, Nat.zero_le _⟩ rfl (fun H locs hI => ?_)
      refine kb_eq (tgt := 32) cx dX1_update_25 (by decide) (fun c_3 => ?_) (fun c_3 => ?_)
      · refine lv_iconst (v := 3) cx.1 cx.2.1 dX1_update_32 (by decide) ?_
        exact k_top (by first | (simp [mUpdate, c_2, c_3, mfUpdate]; done) | (simp [mUpdate, c_2, mfUpdate]; exact fun h => absurd c_3 h)) (hj33 _ _ hI)
      · refine lv_iconst (v := 0) cx.1 cx.2.1 dX1_update_28 (by decide) ?_
        refine lv_goto (tgt := 33) cx.1 cx.2.1 dX1_update_29 (by decide) ?_
        exact k_top (by first | (simp [mUpdate, c_2, c_3, mfUpdate]; done) | (simp [mUpdate, c_2, mfUpdate]; exact fun h => absurd c_3 h)) (hj33 _ _ hI)
    · refine lv_iload cx.1 cx.2.1 dX1_update_15 (lv_at hl 0 rfl) ?_
      refine lv_goto (tgt := 33) cx.1 cx.2.1 dX1_update_17 (by decide) ?_
      exact k_top (by first | (simp [mUpdate, c_2, mfUpdate]; done) | (simp [mUpdate, mfUpdate]; exact fun h => absurd c_2 h)) (hj33 _ _ hI)
set_option maxHeartbeats 4000000 in
set_option maxRecDepth 100000 in
theorem kX1_delete (l : Launch) (D : va_G) (ca : Nat → ClassId) (ad : Nat → Nat) (v : MS) (key : Int32) (h0 : vp_in (mc v) 2000) : CM l yX1_delete cX1_delete 3 (some .int) (KR 5 109) D ca (mw ad ca v) [.ref (ad 0), .int key] (some (.int (if mfDelete v key = 0 then mO v key.toNatClampNeg else 0))) (mw ad ca (mDelete v key)) := by
  refine CM.of (by decide) (Nat.le_of_ble_eq_true rfl) ?_
  intro p e s m below meth c A ls cx hml hr hlk hI hl
  have hl : lv_has ls 3 [(0, .ref (ad 0)), (1, .int key)] := hl
  refine lv_aload_n cx.1 cx.2.1 dX1_delete_0 rfl (lv_at hl 0 rfl) ?_
  refine k_join (D := D) (A := A) 25 (mw ad ca v) [.int (mfDelete v key), .ref (ad 0)] (fun H locs hI => ?_) (fun hj25 => ?_)
  · refine mc_i 1 cx (hl.1.trans hml.symm) (kX1_can l D ca ad v (mfDelete v key)) hI wk_512 wk_509 wk_511 wq_24 ⟨rfl, by decide +kernel⟩ rfl ⟨rfl, rfl⟩ ⟨Nat.le_of_ble_eq_true rfl, Nat.le_of_ble_eq_true rfl⟩ (Nat.le_of_ble_eq_true rfl) dX1_delete_25 ⟨Nat.zero_le _, Nat.zero_le _⟩ rfl (fun H locs hI => ?_)
    refine kb_ne (tgt := 33) cx dX1_delete_28 (by decide) (fun c_1 => ?_) (fun c_1 => ?_)
    · have hk := mfDelete_in c_1
      refine lv_aload_n cx.1 cx.2.1 dX1_delete_33 rfl (lv_at hl 0 rfl) ?_
      refine mg_0 cx hI dX1_delete_34 ?_
      refine lv_iload_n cx.1 cx.2.1 dX1_delete_37 rfl (lv_at hl 1 rfl) ?_
      refine ma_O cx hI hk dX1_delete_38 ?_
      refine k_top (y := mO v key.toNatClampNeg) rfl ?_
      refine k_top (y := mO v key.toNatClampNeg) rfl ?_
      refine lv_istore_n (lv' := [(2, .int (mO v key.toNatClampNeg)), (0, .ref (ad 0)), (1, .int key)]) cx.1 cx.2.1 dX1_delete_39 rfl hl (by decide) rfl (fun ls hl => ?_)
      refine lv_aload_n cx.1 cx.2.1 dX1_delete_40 rfl (lv_at hl 1 rfl) ?_
      refine lv_iload_n cx.1 cx.2.1 dX1_delete_41 rfl (lv_at hl 2 rfl) ?_
      refine lv_iconst (v := (-1)) cx.1 cx.2.1 dX1_delete_42 (by decide) ?_
      refine mc_v 2 cx (hl.1.trans hml.symm) (kX1_writes l D ca ad (mUz v (mfDelete v key)) key (-1) hk h0) hI wk_516 wk_513 wk_515 wq_25 ⟨rfl, by decide +kernel⟩ rfl ⟨rfl, rfl⟩ ⟨Nat.le_of_ble_eq_true rfl, Nat.le_of_ble_eq_true rfl⟩ (Nat.le_of_ble_eq_true rfl) dX1_delete_43 ⟨Nat.zero_le _, Nat.zero_le _⟩ rfl (fun H locs hI => ?_)
      refine lv_iload_n cx.1 cx.2.1 dX1_delete_46 rfl (lv_at hl 0 rfl) ?_
      exact ke_i cx hr hlk hI (Nat.zero_le _) (Nat.zero_le _) dX1_delete_47 (congrArg (fun z => some (Value.int z)) (by simp [mDelete, (of_decide_eq_true c_1)])) (congrArg (mw ad ca) (by simp [mDelete, (of_decide_eq_true c_1)]))
    · refine lv_iconst (v := 0) cx.1 cx.2.1 dX1_delete_31 (by decide) ?_
      exact ke_i cx hr hlk hI (Nat.zero_le _) (Nat.zero_le _) dX1_delete_32 (congrArg (fun z => some (Value.int z)) (by simp [mDelete, (of_decide_eq_false c_1)])) (congrArg (mw ad ca) (by simp [mDelete, (of_decide_eq_false c_1)]))
  ·
    refine lv_iload_n cx.1 cx.2.1 dX1_delete_1 rfl (lv_at hl 1 rfl) ?_
    refine ks_i 1 cx (hl.1.trans hml.symm) (kX1_isKey l D ca key) hI wk_500 wk_498 wk_499 wk_3 ⟨by decide, by decide, by decide +kernel⟩ rfl ⟨rfl, rfl⟩ ⟨Nat.le_of_ble_eq_true rfl, Nat.le_of_ble_eq_true rfl⟩ (Nat.le_of_ble_eq_true rfl) dX1_delete_2 ⟨Nat.zero_le _, Nat.zero_le _⟩ rfl (fun H locs hI => ?_)
    refine kb_ne (tgt := 12) cx dX1_delete_5 (by decide) (fun c_2 => ?_) (fun c_2 => ?_)
    · have hk := xKey_in c_2
      refine lv_aload_n cx.1 cx.2.1 dX1_delete_12 rfl (lv_at hl 0 rfl) ?_
      refine lv_iload_n cx.1 cx.2.1 dX1_delete_13 rfl (lv_at hl 1 rfl) ?_
      refine mc_i 1 cx (hl.1.trans hml.symm) (kX1_isSeen l D ca ad v key hk) hI wk_508 wk_505 wk_507 wq_23 ⟨rfl, by decide +kernel⟩ rfl ⟨rfl, rfl⟩ ⟨Nat.le_of_ble_eq_true rfl, Nat.le_of_ble_eq_true rfl⟩ (Nat.le_of_ble_eq_true rfl) dX1_delete_14 ⟨Nat.zero_le _, Nat.zero_le _⟩ rfl (fun H locs hI => ?_)
      refine kb_eq (tgt := 24) cx dX1_delete_17 (by decide) (fun c_3 => ?_) (fun c_3 => ?_)
      · refine lv_iconst (v := 2) cx.1 cx.2.1 dX1_delete_24 (by decide) ?_
        exact k_top (by first | (simp [mDelete, c_2, c_3, mfDelete]; done) | (simp [mDelete, c_2, mfDelete]; exact fun h => absurd c_3 h)) (hj25 _ _ hI)
      · refine lv_iconst (v := 0) cx.1 cx.2.1 dX1_delete_20 (by decide) ?_
        refine lv_goto (tgt := 25) cx.1 cx.2.1 dX1_delete_21 (by decide) ?_
        exact k_top (by first | (simp [mDelete, c_2, c_3, mfDelete]; done) | (simp [mDelete, c_2, mfDelete]; exact fun h => absurd c_3 h)) (hj25 _ _ hI)
    · refine lv_iconst (v := 1) cx.1 cx.2.1 dX1_delete_8 (by decide) ?_
      refine lv_goto (tgt := 25) cx.1 cx.2.1 dX1_delete_9 (by decide) ?_
      exact k_top (by first | (simp [mDelete, c_2, mfDelete]; done) | (simp [mDelete, mfDelete]; exact fun h => absurd c_2 h)) (hj25 _ _ hI)
set_option maxHeartbeats 4000000 in
set_option maxRecDepth 100000 in
theorem kX1_rekey (l : Launch) (D : va_G) (ca : Nat → ClassId) (ad : Nat → Nat) (v : MS) (key to : Int32) (h0 : vp_in (mc v) 2000) (h1 : vp_in (mc v + 1) 2000) : CM l yX1_rekey cX1_rekey 4 none (KR 4 87) D ca (mw ad ca v) [.ref (ad 0), .int key, .int to] none (mw ad ca (mRekey v key to)) := by
  refine CM.of (by decide) (Nat.le_of_ble_eq_true rfl) ?_
  intro p e s m below meth c A ls cx hml hr hlk hI hl
  have hl : lv_has ls 4 [(0, .ref (ad 0)), (1, .int key), (2, .int to)] := hl
  refine k_join (D := D) (A := A) 19 (mw ad ca v) [.int (b2i (kBoth (xWithin key 0 39) (xWithin to 0 39)))] (fun H locs hI => ?_) (fun hj19 => ?_)
  · refine lv_istore_n (lv' := [(3, .int (b2i (kBoth (xWithin key 0 39) (xWithin to 0 39)))), (0, .ref (ad 0)), (1, .int key), (2, .int to)]) cx.1 cx.2.1 dX1_rekey_19 rfl hl (by decide) rfl (fun ls hl => ?_)
    refine lv_aload_n cx.1 cx.2.1 dX1_rekey_20 rfl (lv_at hl 1 rfl) ?_
    refine k_join (D := D) (A := A) 63 (mw ad ca v) [.int (mfRekey v key to), .ref (ad 0)] (fun H locs hI => ?_) (fun hj63 => ?_)
    · refine mc_i 1 cx (hl.1.trans hml.symm) (kX1_can l D ca ad v (mfRekey v key to)) hI wk_512 wk_509 wk_511 wq_24 ⟨rfl, by decide +kernel⟩ rfl ⟨rfl, rfl⟩ ⟨Nat.le_of_ble_eq_true rfl, Nat.le_of_ble_eq_true rfl⟩ (Nat.le_of_ble_eq_true rfl) dX1_rekey_63 ⟨Nat.zero_le _, Nat.zero_le _⟩ rfl (fun H locs hI => ?_)
      refine kb_eq (tgt := 116) cx dX1_rekey_66 (by decide) (fun c_1 => ?_) (fun c_1 => ?_)
      · exact ke_v cx hr hlk hI (Nat.zero_le _) (Nat.zero_le _) dX1_rekey_116 rfl (congrArg (mw ad ca) (by simp [mRekey, (of_decide_eq_false c_1)]))
      · obtain ⟨hk, hk2⟩ := mfRekey_in c_1
        refine lv_aload_n cx.1 cx.2.1 dX1_rekey_69 rfl (lv_at hl 1 rfl) ?_
        refine mg_0 cx hI dX1_rekey_70 ?_
        refine lv_iload_n cx.1 cx.2.1 dX1_rekey_73 rfl (lv_at hl 3 rfl) ?_
        refine lv_aload_n cx.1 cx.2.1 dX1_rekey_74 rfl (lv_at hl 1 rfl) ?_
        refine mg_0 cx hI dX1_rekey_75 ?_
        refine lv_iload_n cx.1 cx.2.1 dX1_rekey_78 rfl (lv_at hl 2 rfl) ?_
        refine ma_O cx hI hk dX1_rekey_79 ?_
        refine k_top (y := mO v key.toNatClampNeg) rfl ?_
        refine ms_O cx hI hk2 dX1_rekey_80 (fun H locs hI => ?_)
        refine lv_aload_n cx.1 cx.2.1 dX1_rekey_81 rfl (lv_at hl 1 rfl) ?_
        refine mg_0 cx hI dX1_rekey_82 ?_
        refine lv_iload_n cx.1 cx.2.1 dX1_rekey_85 rfl (lv_at hl 2 rfl) ?_
        refine lv_iconst (v := (-1)) cx.1 cx.2.1 dX1_rekey_86 (by decide) ?_
        refine ms_O cx hI hk dX1_rekey_87 (fun H locs hI => ?_)
        have hI : KI D A (mw ad ca (mMove (mUz v (mfRekey v key to)) key to)) s.heap _ _ := hI
        refine lv_aload_n cx.1 cx.2.1 dX1_rekey_88 rfl (lv_at hl 1 rfl) ?_
        refine k_join (D := D) (A := A) 99 (mw ad ca (mMove (mUz v (mfRekey v key to)) key to)) [.int (mMin key to), .ref (ad 0)] (fun H locs hI => ?_) (fun hj99 => ?_)
        · refine mc_v 1 cx (hl.1.trans hml.symm) (kX1_wrote l D ca ad (mMove (mUz v (mfRekey v key to)) key to) (mMin key to) (mMin_in hk hk2) h0) hI wk_520 wk_517 wk_519 wq_26 ⟨rfl, by decide +kernel⟩ rfl ⟨rfl, rfl⟩ ⟨Nat.le_of_ble_eq_true rfl, Nat.le_of_ble_eq_true rfl⟩ (Nat.le_of_ble_eq_true rfl) dX1_rekey_99 ⟨Nat.zero_le _, Nat.zero_le _⟩ rfl (fun H locs hI => ?_)
          refine lv_aload_n cx.1 cx.2.1 dX1_rekey_102 rfl (lv_at hl 1 rfl) ?_
          refine k_join (D := D) (A := A) 113 (mw ad ca (mWrote (mMove (mUz v (mfRekey v key to)) key to) (mMin key to))) [.int (mMax key to), .ref (ad 0)] (fun H locs hI => ?_) (fun hj113 => ?_)
          · refine mc_v 1 cx (hl.1.trans hml.symm) (kX1_wrote l D ca ad (mWrote (mMove (mUz v (mfRekey v key to)) key to) (mMin key to)) (mMax key to) (mMax_in hk hk2) (mWrote_c h0 h1)) hI wk_520 wk_517 wk_519 wq_26 ⟨rfl, by decide +kernel⟩ rfl ⟨rfl, rfl⟩ ⟨Nat.le_of_ble_eq_true rfl, Nat.le_of_ble_eq_true rfl⟩ (Nat.le_of_ble_eq_true rfl) dX1_rekey_113 ⟨Nat.zero_le _, Nat.zero_le _⟩ rfl (fun H locs hI => ?_)
            exact ke_v cx hr hlk hI (Nat.zero_le _) (Nat.zero_le _) dX1_rekey_116 rfl (congrArg (mw ad ca) (by simp [mRekey, (of_decide_eq_true c_1)]))
          ·
            refine lv_iload_n cx.1 cx.2.1 dX1_rekey_103 rfl (lv_at hl 2 rfl) ?_
            refine lv_iload_n cx.1 cx.2.1 dX1_rekey_104 rfl (lv_at hl 3 rfl) ?_
            refine lv_icmp_ge (tgt := 112) cx.1 cx.2.1 dX1_rekey_105 (by decide) (fun c_2 => ?_) (fun c_2 => ?_)
            · refine lv_iload_n cx.1 cx.2.1 dX1_rekey_112 rfl (lv_at hl 2 rfl) ?_
              exact k_top (by first | (simp [mRekey, (of_decide_eq_true c_1), c_2, mMax]; done) | (simp [mRekey, (of_decide_eq_true c_1), mMax]; exact fun h => absurd c_2 h)) (hj113 _ _ hI)
            · refine lv_iload_n cx.1 cx.2.1 dX1_rekey_108 rfl (lv_at hl 3 rfl) ?_
              refine lv_goto (tgt := 113) cx.1 cx.2.1 dX1_rekey_109 (by decide) ?_
              exact k_top (by first | (simp [mRekey, (of_decide_eq_true c_1), c_2, mMax]; done) | (simp [mRekey, (of_decide_eq_true c_1), mMax]; exact fun h => absurd c_2 h)) (hj113 _ _ hI)
        ·
          refine lv_iload_n cx.1 cx.2.1 dX1_rekey_89 rfl (lv_at hl 2 rfl) ?_
          refine lv_iload_n cx.1 cx.2.1 dX1_rekey_90 rfl (lv_at hl 3 rfl) ?_
          refine lv_icmp_ge (tgt := 98) cx.1 cx.2.1 dX1_rekey_91 (by decide) (fun c_3 => ?_) (fun c_3 => ?_)
          · refine lv_iload_n cx.1 cx.2.1 dX1_rekey_98 rfl (lv_at hl 3 rfl) ?_
            exact k_top (by first | (simp [mRekey, (of_decide_eq_true c_1), c_3, mMin]; done) | (simp [mRekey, (of_decide_eq_true c_1), mMin]; exact fun h => absurd c_3 h)) (hj99 _ _ hI)
          · refine lv_iload_n cx.1 cx.2.1 dX1_rekey_94 rfl (lv_at hl 2 rfl) ?_
            refine lv_goto (tgt := 99) cx.1 cx.2.1 dX1_rekey_95 (by decide) ?_
            exact k_top (by first | (simp [mRekey, (of_decide_eq_true c_1), c_3, mMin]; done) | (simp [mRekey, (of_decide_eq_true c_1), mMin]; exact fun h => absurd c_3 h)) (hj99 _ _ hI)
    ·
      refine lv_iload_n cx.1 cx.2.1 dX1_rekey_21 rfl (lv_at hl 0 rfl) ?_
      refine kb_ne (tgt := 29) cx dX1_rekey_22 (by decide) (fun c_4 => ?_) (fun c_4 => ?_)
      · have hk : vp_in key 40 := xKey_in (kAnd2 c_4).1
        have hk2 : vp_in to 40 := xKey_in (kAnd2 c_4).2
        refine lv_iload_n cx.1 cx.2.1 dX1_rekey_29 rfl (lv_at hl 2 rfl) ?_
        refine lv_iload_n cx.1 cx.2.1 dX1_rekey_30 rfl (lv_at hl 3 rfl) ?_
        refine lv_icmp_ne (tgt := 38) cx.1 cx.2.1 dX1_rekey_31 (by decide) (fun c_5 => ?_) (fun c_5 => ?_)
        · refine lv_aload_n cx.1 cx.2.1 dX1_rekey_38 rfl (lv_at hl 1 rfl) ?_
          refine lv_iload_n cx.1 cx.2.1 dX1_rekey_39 rfl (lv_at hl 2 rfl) ?_
          refine mc_i 1 cx (hl.1.trans hml.symm) (kX1_isSeen l D ca ad v key hk) hI wk_508 wk_505 wk_507 wq_23 ⟨rfl, by decide +kernel⟩ rfl ⟨rfl, rfl⟩ ⟨Nat.le_of_ble_eq_true rfl, Nat.le_of_ble_eq_true rfl⟩ (Nat.le_of_ble_eq_true rfl) dX1_rekey_40 ⟨Nat.zero_le _, Nat.zero_le _⟩ rfl (fun H locs hI => ?_)
          refine kb_ne (tgt := 50) cx dX1_rekey_43 (by decide) (fun c_6 => ?_) (fun c_6 => ?_)
          · refine lv_aload_n cx.1 cx.2.1 dX1_rekey_50 rfl (lv_at hl 1 rfl) ?_
            refine lv_iload_n cx.1 cx.2.1 dX1_rekey_51 rfl (lv_at hl 3 rfl) ?_
            refine mc_i 1 cx (hl.1.trans hml.symm) (kX1_isSeen l D ca ad v to hk2) hI wk_508 wk_505 wk_507 wq_23 ⟨rfl, by decide +kernel⟩ rfl ⟨rfl, rfl⟩ ⟨Nat.le_of_ble_eq_true rfl, Nat.le_of_ble_eq_true rfl⟩ (Nat.le_of_ble_eq_true rfl) dX1_rekey_52 ⟨Nat.zero_le _, Nat.zero_le _⟩ rfl (fun H locs hI => ?_)
            refine kb_eq (tgt := 62) cx dX1_rekey_55 (by decide) (fun c_7 => ?_) (fun c_7 => ?_)
            · refine lv_iconst (v := 0) cx.1 cx.2.1 dX1_rekey_62 (by decide) ?_
              exact k_top (by first | (simp [mRekey, c_4, c_5, c_6, c_7, mfRekey]; done) | (simp [mRekey, c_4, c_5, c_6, mfRekey]; exact fun h => absurd c_7 h)) (hj63 _ _ hI)
            · refine lv_iconst (v := 4) cx.1 cx.2.1 dX1_rekey_58 (by decide) ?_
              refine lv_goto (tgt := 63) cx.1 cx.2.1 dX1_rekey_59 (by decide) ?_
              exact k_top (by first | (simp [mRekey, c_4, c_5, c_6, c_7, mfRekey]; done) | (simp [mRekey, c_4, c_5, c_6, mfRekey]; exact fun h => absurd c_7 h)) (hj63 _ _ hI)
          · refine lv_iconst (v := 3) cx.1 cx.2.1 dX1_rekey_46 (by decide) ?_
            refine lv_goto (tgt := 63) cx.1 cx.2.1 dX1_rekey_47 (by decide) ?_
            exact k_top (by first | (simp [mRekey, c_4, c_5, c_6, mfRekey]; done) | (simp [mRekey, c_4, c_5, mfRekey]; exact fun h => absurd c_6 h)) (hj63 _ _ hI)
        · refine lv_iconst (v := 2) cx.1 cx.2.1 dX1_rekey_34 (by decide) ?_
          refine lv_goto (tgt := 63) cx.1 cx.2.1 dX1_rekey_35 (by decide) ?_
          exact k_top (by first | (simp [mRekey, c_4, c_5, mfRekey]; done) | (simp [mRekey, c_4, mfRekey]; exact fun h => absurd c_5 h)) (hj63 _ _ hI)
      · refine lv_iconst (v := 1) cx.1 cx.2.1 dX1_rekey_25 (by decide) ?_
        refine lv_goto (tgt := 63) cx.1 cx.2.1 dX1_rekey_26 (by decide) ?_
        exact k_top (by first | (simp [mRekey, c_4, mfRekey]; done) | (simp [mRekey, mfRekey]; exact fun h => absurd c_4 h)) (hj63 _ _ hI)
  ·
    refine lv_iload_n cx.1 cx.2.1 dX1_rekey_0 rfl (lv_at hl 1 rfl) ?_
    refine ks_i 1 cx (hl.1.trans hml.symm) (kX1_isKey l D ca key) hI wk_500 wk_498 wk_499 wk_3 ⟨by decide, by decide, by decide +kernel⟩ rfl ⟨rfl, rfl⟩ ⟨Nat.le_of_ble_eq_true rfl, Nat.le_of_ble_eq_true rfl⟩ (Nat.le_of_ble_eq_true rfl) dX1_rekey_1 ⟨Nat.zero_le _, Nat.zero_le _⟩ rfl (fun H locs hI => ?_)
    refine kb_eq (tgt := 18) cx dX1_rekey_4 (by decide) (fun c_8 => ?_) (fun c_8 => ?_)
    · refine lv_iconst (v := 0) cx.1 cx.2.1 dX1_rekey_18 (by decide) ?_
      exact k_top (by first | (simp [mRekey, c_8, b2i, kBoth]; done) | (simp [mRekey, b2i, kBoth]; exact fun h => absurd c_8 h)) (hj19 _ _ hI)
    · refine lv_iload_n cx.1 cx.2.1 dX1_rekey_7 rfl (lv_at hl 2 rfl) ?_
      refine ks_i 1 cx (hl.1.trans hml.symm) (kX1_isKey l D ca to) hI wk_500 wk_498 wk_499 wk_3 ⟨by decide, by decide, by decide +kernel⟩ rfl ⟨rfl, rfl⟩ ⟨Nat.le_of_ble_eq_true rfl, Nat.le_of_ble_eq_true rfl⟩ (Nat.le_of_ble_eq_true rfl) dX1_rekey_8 ⟨Nat.zero_le _, Nat.zero_le _⟩ rfl (fun H locs hI => ?_)
      refine kb_eq (tgt := 18) cx dX1_rekey_11 (by decide) (fun c_9 => ?_) (fun c_9 => ?_)
      · refine lv_iconst (v := 0) cx.1 cx.2.1 dX1_rekey_18 (by decide) ?_
        exact k_top (by first | (simp [mRekey, c_8, c_9, b2i, kBoth]; done) | (simp [mRekey, c_8, b2i, kBoth]; exact fun h => absurd c_9 h)) (hj19 _ _ hI)
      · refine lv_iconst (v := 1) cx.1 cx.2.1 dX1_rekey_14 (by decide) ?_
        refine lv_goto (tgt := 19) cx.1 cx.2.1 dX1_rekey_15 (by decide) ?_
        exact k_top (by first | (simp [mRekey, c_8, c_9, b2i, kBoth]; done) | (simp [mRekey, c_8, b2i, kBoth]; exact fun h => absurd c_9 h)) (hj19 _ _ hI)
set_option maxHeartbeats 4000000 in
set_option maxRecDepth 100000 in
theorem kX1_clears (l : Launch) (D : va_G) (ca : Nat → ClassId) (ad : Nat → Nat) (v : MS) : CM l yX1_clears cX1_clears 2 none (KR 0 0) D ca (mw ad ca v) [.ref (ad 0)] none (mw ad ca (mClears v)) := by
  refine CM.of (by decide) (Nat.le_of_ble_eq_true rfl) ?_
  intro p e s m below meth c A ls cx hml hr hlk hI hl
  have hl : lv_has ls 2 [(0, .ref (ad 0))] := hl
  refine lv_iconst (v := 0) cx.1 cx.2.1 dX1_clears_0 (by decide) ?_
  refine lv_istore_n (lv' := [(1, .int 0), (0, .ref (ad 0))]) cx.1 cx.2.1 dX1_clears_1 rfl hl (by decide) rfl (fun ls hl => ?_)
  refine k_loop 40 (fun i => (mw ad ca (mClr v i))) (fun i => [(1, .int (nI i)), (0, .ref (ad 0))]) hI (lv_sub hl [0, 1] rfl) (fun H locs ls hI hl => ?_) (fun i hi H locs ls hI hl ih => ?_)
  · have hI : KI D A (mw ad ca (mClr v 40)) s.heap H locs := hI
    have hl : lv_has ls 2 [(1, .int (nI 40)), (0, .ref (ad 0))] := hl
    refine lv_iload_n cx.1 cx.2.1 dX1_clears_2 rfl (lv_at hl 0 rfl) ?_
    refine lv_bipush (v := 40) cx.1 cx.2.1 dX1_clears_3 (by decide) ?_
    refine lv_icmp_ge (tgt := 28) cx.1 cx.2.1 dX1_clears_5 (by decide) (fun _ => ?_) (fun h9 => absurd (by decide : (40 : Int32) ≤ nI 40) h9)
    refine lv_aload_n cx.1 cx.2.1 dX1_clears_28 rfl (lv_at hl 1 rfl) ?_
    refine lv_iconst (v := 0) cx.1 cx.2.1 dX1_clears_29 (by decide) ?_
    refine mp_9 cx hI dX1_clears_30 (fun H locs hI => ?_)
    refine lv_aload_n cx.1 cx.2.1 dX1_clears_33 rfl (lv_at hl 1 rfl) ?_
    refine lv_iconst (v := 0) cx.1 cx.2.1 dX1_clears_34 (by decide) ?_
    refine mp_10 cx hI dX1_clears_35 (fun H locs hI => ?_)
    exact ke_v cx hr hlk hI (Nat.zero_le _) (Nat.zero_le _) dX1_clears_38 rfl (congrArg (mw ad ca) (by simp [mClears]))
  · have hI : KI D A (mw ad ca (mClr v i)) s.heap H locs := hI
    have hl : lv_has ls 2 [(1, .int (nI i)), (0, .ref (ad 0))] := hl
    refine lv_iload_n cx.1 cx.2.1 dX1_clears_2 rfl (lv_at hl 0 rfl) ?_
    refine lv_bipush (v := 40) cx.1 cx.2.1 dX1_clears_3 (by decide) ?_
    refine lv_icmp_ge (tgt := 28) cx.1 cx.2.1 dX1_clears_5 (by decide) (fun h9 => absurd h9 (nI_ge hi (by decide))) (fun _ => ?_)
    refine lv_aload_n cx.1 cx.2.1 dX1_clears_8 rfl (lv_at hl 1 rfl) ?_
    refine mg_2 cx hI dX1_clears_9 ?_
    refine lv_iload_n cx.1 cx.2.1 dX1_clears_12 rfl (lv_at hl 0 rfl) ?_
    refine lv_iconst (v := 0) cx.1 cx.2.1 dX1_clears_13 (by decide) ?_
    refine ms_H cx hI (vp_in_nI hi (by decide)) dX1_clears_14 (fun H locs hI => ?_)
    refine lv_aload_n cx.1 cx.2.1 dX1_clears_15 rfl (lv_at hl 1 rfl) ?_
    refine mg_3 cx hI dX1_clears_16 ?_
    refine lv_iload_n cx.1 cx.2.1 dX1_clears_19 rfl (lv_at hl 0 rfl) ?_
    refine lv_iconst (v := 0) cx.1 cx.2.1 dX1_clears_20 (by decide) ?_
    refine ms_F cx hI (vp_in_nI hi (by decide)) dX1_clears_21 (fun H locs hI => ?_)
    refine lv_iinc (v := nI (i + 1)) (lv' := [(1, .int (nI (i + 1))), (0, .ref (ad 0))]) cx.1 cx.2.1 dX1_clears_22 hl (k := 0) rfl (nI_1 i) (by decide) rfl (fun ls hl => ?_)
    refine lv_goto (tgt := 2) cx.1 cx.2.1 dX1_clears_25 (by decide) ?_
    refine ih _ _ _ ?_ ?_
    · show KI D A (mw ad ca (mClr v (i + 1))) s.heap _ _
      rw [show mClr v (i + 1) = mUF (mUH (mClr v i) (upd (mH (mClr v i)) (nI i).toNatClampNeg (vp_nar .boolean 0))) (upd (mF (mUH (mClr v i) (upd (mH (mClr v i)) (nI i).toNatClampNeg (vp_nar .boolean 0)))) (nI i).toNatClampNeg (vp_nar .boolean 0)) from rfl]
      exact hI
    · show lv_has _ _ [(1, .int (nI (i + 1))), (0, .ref (ad 0))]
      exact lv_sub hl [0, 1] rfl
set_option maxHeartbeats 4000000 in
set_option maxRecDepth 100000 in
theorem kX1_start (l : Launch) (D : va_G) (ca : Nat → ClassId) (ad : Nat → Nat) (v : MS) (al pa : Int32) : CM l yX1_start cX1_start 4 none (KR 1 22) D ca (mw ad ca v) [.ref (ad 0), .int al, .int pa] none (mw ad ca (mStart v al pa)) := by
  refine CM.of (by decide) (Nat.le_of_ble_eq_true rfl) ?_
  intro p e s m below meth c A ls cx hml hr hlk hI hl
  have hl : lv_has ls 4 [(0, .ref (ad 0)), (1, .int al), (2, .int pa)] := hl
  refine k_join (D := D) (A := A) 25 (mw ad ca v) [.int (b2i (kBoth (xWithin al 0 2) (xWithin pa 0 999)))] (fun H locs hI => ?_) (fun hj25 => ?_)
  · refine lv_istore_n (lv' := [(3, .int (b2i (kBoth (xWithin al 0 2) (xWithin pa 0 999)))), (0, .ref (ad 0)), (1, .int al), (2, .int pa)]) cx.1 cx.2.1 dX1_start_25 rfl hl (by decide) rfl (fun ls hl => ?_)
    refine lv_aload_n cx.1 cx.2.1 dX1_start_26 rfl (lv_at hl 1 rfl) ?_
    refine k_join (D := D) (A := A) 47 (mw ad ca v) [.int (mfStart v al pa), .ref (ad 0)] (fun H locs hI => ?_) (fun hj47 => ?_)
    · refine mc_i 1 cx (hl.1.trans hml.symm) (kX1_can l D ca ad v (mfStart v al pa)) hI wk_512 wk_509 wk_511 wq_24 ⟨rfl, by decide +kernel⟩ rfl ⟨rfl, rfl⟩ ⟨Nat.le_of_ble_eq_true rfl, Nat.le_of_ble_eq_true rfl⟩ (Nat.le_of_ble_eq_true rfl) dX1_start_47 ⟨Nat.zero_le _, Nat.zero_le _⟩ rfl (fun H locs hI => ?_)
      refine kb_eq (tgt := 72) cx dX1_start_50 (by decide) (fun c_1 => ?_) (fun c_1 => ?_)
      · exact ke_v cx hr hlk hI (Nat.zero_le _) (Nat.zero_le _) dX1_start_72 rfl (congrArg (mw ad ca) (by simp [mStart, (of_decide_eq_false c_1)]))
      · refine lv_aload_n cx.1 cx.2.1 dX1_start_53 rfl (lv_at hl 1 rfl) ?_
        refine lv_iload_n cx.1 cx.2.1 dX1_start_54 rfl (lv_at hl 2 rfl) ?_
        refine mp_5 cx hI dX1_start_55 (fun H locs hI => ?_)
        refine lv_aload_n cx.1 cx.2.1 dX1_start_58 rfl (lv_at hl 1 rfl) ?_
        refine lv_iload_n cx.1 cx.2.1 dX1_start_59 rfl (lv_at hl 3 rfl) ?_
        refine mp_6 cx hI dX1_start_60 (fun H locs hI => ?_)
        refine lv_aload_n cx.1 cx.2.1 dX1_start_63 rfl (lv_at hl 1 rfl) ?_
        refine mc_v 0 cx (hl.1.trans hml.symm) (kX1_clears l D ca ad (mUq (mUt (mUz v (mfStart v al pa)) al) pa)) hI wk_551 wk_548 wk_550 wq_29 ⟨rfl, by decide +kernel⟩ rfl ⟨rfl, rfl⟩ ⟨Nat.le_of_ble_eq_true rfl, Nat.le_of_ble_eq_true rfl⟩ (Nat.le_of_ble_eq_true rfl) dX1_start_64 ⟨Nat.zero_le _, Nat.zero_le _⟩ rfl (fun H locs hI => ?_)
        refine lv_aload_n cx.1 cx.2.1 dX1_start_67 rfl (lv_at hl 1 rfl) ?_
        refine lv_iconst (v := 1) cx.1 cx.2.1 dX1_start_68 (by decide) ?_
        refine mp_4 cx hI dX1_start_69 (fun H locs hI => ?_)
        exact ke_v cx hr hlk hI (Nat.zero_le _) (Nat.zero_le _) dX1_start_72 rfl (congrArg (mw ad ca) (by simp [mStart, (of_decide_eq_true c_1)]))
    ·
      refine lv_iload_n cx.1 cx.2.1 dX1_start_27 rfl (lv_at hl 0 rfl) ?_
      refine kb_ne (tgt := 35) cx dX1_start_28 (by decide) (fun c_2 => ?_) (fun c_2 => ?_)
      · refine lv_aload_n cx.1 cx.2.1 dX1_start_35 rfl (lv_at hl 1 rfl) ?_
        refine mg_4 cx hI dX1_start_36 ?_
        refine lv_if_ne (tgt := 46) cx.1 cx.2.1 dX1_start_39 (by decide) (fun c_3 => ?_) (fun c_3 => ?_)
        · refine lv_iconst (v := 2) cx.1 cx.2.1 dX1_start_46 (by decide) ?_
          exact k_top (by first | (simp [mStart, c_2, c_3, mfStart]; done) | (simp [mStart, c_2, mfStart]; exact fun h => absurd c_3 h)) (hj47 _ _ hI)
        · refine lv_iconst (v := 0) cx.1 cx.2.1 dX1_start_42 (by decide) ?_
          refine lv_goto (tgt := 47) cx.1 cx.2.1 dX1_start_43 (by decide) ?_
          exact k_top (by first | (simp [mStart, c_2, c_3, mfStart]; done) | (simp [mStart, c_2, mfStart]; exact fun h => absurd c_3 h)) (hj47 _ _ hI)
      · refine lv_iconst (v := 1) cx.1 cx.2.1 dX1_start_31 (by decide) ?_
        refine lv_goto (tgt := 47) cx.1 cx.2.1 dX1_start_32 (by decide) ?_
        exact k_top (by first | (simp [mStart, c_2, mfStart]; done) | (simp [mStart, mfStart]; exact fun h => absurd c_2 h)) (hj47 _ _ hI)
  ·
    refine lv_iload_n cx.1 cx.2.1 dX1_start_0 rfl (lv_at hl 1 rfl) ?_
    refine lv_iconst (v := 0) cx.1 cx.2.1 dX1_start_1 (by decide) ?_
    refine lv_iconst (v := 2) cx.1 cx.2.1 dX1_start_2 (by decide) ?_
    refine ks_i 3 cx (hl.1.trans hml.symm) (kX1_isIn l D ca al 0 2) hI wk_497 wk_495 wk_496 wk_3 ⟨by decide, by decide, by decide +kernel⟩ rfl ⟨rfl, rfl⟩ ⟨Nat.le_of_ble_eq_true rfl, Nat.le_of_ble_eq_true rfl⟩ (Nat.le_of_ble_eq_true rfl) dX1_start_3 ⟨Nat.zero_le _, Nat.zero_le _⟩ rfl (fun H locs hI => ?_)
    refine kb_eq (tgt := 24) cx dX1_start_6 (by decide) (fun c_4 => ?_) (fun c_4 => ?_)
    · refine lv_iconst (v := 0) cx.1 cx.2.1 dX1_start_24 (by decide) ?_
      exact k_top (by first | (simp [mStart, c_4, b2i, kBoth]; done) | (simp [mStart, b2i, kBoth]; exact fun h => absurd c_4 h)) (hj25 _ _ hI)
    · refine lv_iload_n cx.1 cx.2.1 dX1_start_9 rfl (lv_at hl 2 rfl) ?_
      refine lv_iconst (v := 0) cx.1 cx.2.1 dX1_start_10 (by decide) ?_
      refine lv_sipush (v := 999) cx.1 cx.2.1 dX1_start_11 (by decide) ?_
      refine ks_i 3 cx (hl.1.trans hml.symm) (kX1_isIn l D ca pa 0 999) hI wk_497 wk_495 wk_496 wk_3 ⟨by decide, by decide, by decide +kernel⟩ rfl ⟨rfl, rfl⟩ ⟨Nat.le_of_ble_eq_true rfl, Nat.le_of_ble_eq_true rfl⟩ (Nat.le_of_ble_eq_true rfl) dX1_start_14 ⟨Nat.zero_le _, Nat.zero_le _⟩ rfl (fun H locs hI => ?_)
      refine kb_eq (tgt := 24) cx dX1_start_17 (by decide) (fun c_5 => ?_) (fun c_5 => ?_)
      · refine lv_iconst (v := 0) cx.1 cx.2.1 dX1_start_24 (by decide) ?_
        exact k_top (by first | (simp [mStart, c_4, c_5, b2i, kBoth]; done) | (simp [mStart, c_4, b2i, kBoth]; exact fun h => absurd c_5 h)) (hj25 _ _ hI)
      · refine lv_iconst (v := 1) cx.1 cx.2.1 dX1_start_20 (by decide) ?_
        refine lv_goto (tgt := 25) cx.1 cx.2.1 dX1_start_21 (by decide) ?_
        exact k_top (by first | (simp [mStart, c_4, c_5, b2i, kBoth]; done) | (simp [mStart, c_4, b2i, kBoth]; exact fun h => absurd c_5 h)) (hj25 _ _ hI)
set_option maxHeartbeats 4000000 in
set_option maxRecDepth 100000 in
theorem kX1_setPace (l : Launch) (D : va_G) (ca : Nat → ClassId) (ad : Nat → Nat) (v : MS) (ch lag : Int32) : CM l yX1_setPace cX1_setPace 3 none (KR 1 22) D ca (mw ad ca v) [.ref (ad 0), .int ch, .int lag] none (mw ad ca (mPace v ch lag)) := by
  refine CM.of (by decide) (Nat.le_of_ble_eq_true rfl) ?_
  intro p e s m below meth c A ls cx hml hr hlk hI hl
  have hl : lv_has ls 3 [(0, .ref (ad 0)), (1, .int ch), (2, .int lag)] := hl
  refine lv_aload_n cx.1 cx.2.1 dX1_setPace_0 rfl (lv_at hl 0 rfl) ?_
  refine k_join (D := D) (A := A) 26 (mw ad ca v) [.int (mfPace ch lag), .ref (ad 0)] (fun H locs hI => ?_) (fun hj26 => ?_)
  · refine mc_i 1 cx (hl.1.trans hml.symm) (kX1_can l D ca ad v (mfPace ch lag)) hI wk_512 wk_509 wk_511 wq_24 ⟨rfl, by decide +kernel⟩ rfl ⟨rfl, rfl⟩ ⟨Nat.le_of_ble_eq_true rfl, Nat.le_of_ble_eq_true rfl⟩ (Nat.le_of_ble_eq_true rfl) dX1_setPace_26 ⟨Nat.zero_le _, Nat.zero_le _⟩ rfl (fun H locs hI => ?_)
    refine kb_eq (tgt := 42) cx dX1_setPace_29 (by decide) (fun c_1 => ?_) (fun c_1 => ?_)
    · exact ke_v cx hr hlk hI (Nat.zero_le _) (Nat.zero_le _) dX1_setPace_42 rfl (congrArg (mw ad ca) (by simp [mPace, (of_decide_eq_false c_1)]))
    · refine lv_aload_n cx.1 cx.2.1 dX1_setPace_32 rfl (lv_at hl 0 rfl) ?_
      refine lv_iload_n cx.1 cx.2.1 dX1_setPace_33 rfl (lv_at hl 1 rfl) ?_
      refine mp_7 cx hI dX1_setPace_34 (fun H locs hI => ?_)
      refine lv_aload_n cx.1 cx.2.1 dX1_setPace_37 rfl (lv_at hl 0 rfl) ?_
      refine lv_iload_n cx.1 cx.2.1 dX1_setPace_38 rfl (lv_at hl 2 rfl) ?_
      refine mp_8 cx hI dX1_setPace_39 (fun H locs hI => ?_)
      exact ke_v cx hr hlk hI (Nat.zero_le _) (Nat.zero_le _) dX1_setPace_42 rfl (congrArg (mw ad ca) (by simp [mPace, (of_decide_eq_true c_1)]))
  ·
    refine lv_iload_n cx.1 cx.2.1 dX1_setPace_1 rfl (lv_at hl 1 rfl) ?_
    refine lv_iconst (v := 1) cx.1 cx.2.1 dX1_setPace_2 (by decide) ?_
    refine lv_bipush (v := 40) cx.1 cx.2.1 dX1_setPace_3 (by decide) ?_
    refine ks_i 3 cx (hl.1.trans hml.symm) (kX1_isIn l D ca ch 1 40) hI wk_497 wk_495 wk_496 wk_3 ⟨by decide, by decide, by decide +kernel⟩ rfl ⟨rfl, rfl⟩ ⟨Nat.le_of_ble_eq_true rfl, Nat.le_of_ble_eq_true rfl⟩ (Nat.le_of_ble_eq_true rfl) dX1_setPace_5 ⟨Nat.zero_le _, Nat.zero_le _⟩ rfl (fun H locs hI => ?_)
    refine kb_eq (tgt := 25) cx dX1_setPace_8 (by decide) (fun c_2 => ?_) (fun c_2 => ?_)
    · refine lv_iconst (v := 1) cx.1 cx.2.1 dX1_setPace_25 (by decide) ?_
      exact k_top (by first | (simp [mPace, c_2, mfPace]; done) | (simp [mPace, mfPace]; exact fun h => absurd c_2 h)) (hj26 _ _ hI)
    · refine lv_iload_n cx.1 cx.2.1 dX1_setPace_11 rfl (lv_at hl 2 rfl) ?_
      refine lv_iconst (v := 0) cx.1 cx.2.1 dX1_setPace_12 (by decide) ?_
      refine lv_bipush (v := 100) cx.1 cx.2.1 dX1_setPace_13 (by decide) ?_
      refine ks_i 3 cx (hl.1.trans hml.symm) (kX1_isIn l D ca lag 0 100) hI wk_497 wk_495 wk_496 wk_3 ⟨by decide, by decide, by decide +kernel⟩ rfl ⟨rfl, rfl⟩ ⟨Nat.le_of_ble_eq_true rfl, Nat.le_of_ble_eq_true rfl⟩ (Nat.le_of_ble_eq_true rfl) dX1_setPace_15 ⟨Nat.zero_le _, Nat.zero_le _⟩ rfl (fun H locs hI => ?_)
      refine kb_eq (tgt := 25) cx dX1_setPace_18 (by decide) (fun c_3 => ?_) (fun c_3 => ?_)
      · refine lv_iconst (v := 1) cx.1 cx.2.1 dX1_setPace_25 (by decide) ?_
        exact k_top (by first | (simp [mPace, c_2, c_3, mfPace]; done) | (simp [mPace, c_2, mfPace]; exact fun h => absurd c_3 h)) (hj26 _ _ hI)
      · refine lv_iconst (v := 0) cx.1 cx.2.1 dX1_setPace_21 (by decide) ?_
        refine lv_goto (tgt := 26) cx.1 cx.2.1 dX1_setPace_22 (by decide) ?_
        exact k_top (by first | (simp [mPace, c_2, c_3, mfPace]; done) | (simp [mPace, c_2, mfPace]; exact fun h => absurd c_3 h)) (hj26 _ _ hI)
set_option maxHeartbeats 4000000 in
set_option maxRecDepth 100000 in
theorem kX1_plays (l : Launch) (D : va_G) (ca : Nat → ClassId) (ad : Nat → Nat) (v : MS) (many : Int32) (cn r : Nat) (hc : many = nI cn) (hn : mc v = nI (cn + r)) (hn2 : cn + r ≤ 2000) (hN : ∀ j, j < cn → vp_in (mN v (nI j).toNatClampNeg) 40) : CM l yX1_plays cX1_plays 3 none (KR 3 66) D ca (mw ad ca v) [.ref (ad 0), .int many] none (mw ad ca (mPlays v cn r)) := by
  refine CM.of (by decide) (Nat.le_of_ble_eq_true rfl) ?_
  intro p e s m below meth c A ls cx hml hr hlk hI hl
  subst hc
  have hc2 : mc (mPlayL v cn) = nI (cn + r) := (mPlayL_c v cn).trans hn
  have hl : lv_has ls 3 [(0, .ref (ad 0)), (1, .int (nI cn))] := hl
  refine lv_iconst (v := 0) cx.1 cx.2.1 dX1_plays_0 (by decide) ?_
  refine lv_istore_n (lv' := [(2, .int 0), (0, .ref (ad 0)), (1, .int (nI cn))]) cx.1 cx.2.1 dX1_plays_1 rfl hl (by decide) rfl (fun ls hl => ?_)
  refine k_loop cn (fun i => (mw ad ca (mPlayL v i))) (fun i => [(2, .int (nI i)), (1, .int (nI cn)), (0, .ref (ad 0))]) hI (lv_sub hl [0, 2, 1] rfl) (fun H locs ls hI hl => ?_) (fun i hi H locs ls hI hl ih => ?_)
  · have hI : KI D A (mw ad ca (mPlayL v cn)) s.heap H locs := hI
    have hl : lv_has ls 3 [(2, .int (nI cn)), (1, .int (nI cn)), (0, .ref (ad 0))] := hl
    refine lv_iload_n cx.1 cx.2.1 dX1_plays_2 rfl (lv_at hl 0 rfl) ?_
    refine lv_iload_n cx.1 cx.2.1 dX1_plays_3 rfl (lv_at hl 1 rfl) ?_
    refine lv_icmp_ge (tgt := 23) cx.1 cx.2.1 dX1_plays_4 (by decide) (fun _ => ?_) (fun h9 => absurd (Int32.le_refl _) h9)
    refine lv_iload_n cx.1 cx.2.1 dX1_plays_23 rfl (lv_at hl 1 rfl) ?_
    refine lv_istore_n (lv' := [(2, .int (nI cn)), (1, .int (nI cn)), (0, .ref (ad 0))]) cx.1 cx.2.1 dX1_plays_24 rfl hl (by decide) rfl (fun ls hl => ?_)
    refine k_loop r (fun i => (mw ad ca (mShift (mPlayL v cn) cn i))) (fun i => [(2, .int (nI (cn + i))), (1, .int (nI cn)), (0, .ref (ad 0))]) hI (lv_sub hl [0, 1, 2] rfl) (fun H locs ls hI hl => ?_) (fun i hi H locs ls hI hl ih => ?_)
    · have hI : KI D A (mw ad ca (mShift (mPlayL v cn) cn r)) s.heap H locs := hI
      have hl : lv_has ls 3 [(2, .int (nI (cn + r))), (1, .int (nI cn)), (0, .ref (ad 0))] := hl
      refine lv_iload_n cx.1 cx.2.1 dX1_plays_25 rfl (lv_at hl 0 rfl) ?_
      refine lv_aload_n cx.1 cx.2.1 dX1_plays_26 rfl (lv_at hl 2 rfl) ?_
      refine mg_10 cx hI dX1_plays_27 ?_
      refine lv_icmp_ge (tgt := 53) cx.1 cx.2.1 dX1_plays_30 (by decide) (fun _ => ?_) (fun h9 => absurd (show mc (mShift (mPlayL v cn) cn r) ≤ nI (cn + r) by rw [mShift_c, hc2]; exact Int32.le_refl _) h9)
      refine lv_aload_n cx.1 cx.2.1 dX1_plays_53 rfl (lv_at hl 2 rfl) ?_
      refine lv_dup cx.1 cx.2.1 dX1_plays_54 rfl ?_
      refine mg_10 cx hI dX1_plays_55 ?_
      refine lv_iload_n cx.1 cx.2.1 dX1_plays_58 rfl (lv_at hl 1 rfl) ?_
      refine lv_isub cx.1 cx.2.1 dX1_plays_59 ?_
      refine mp_10 cx hI dX1_plays_60 (fun H locs hI => ?_)
      exact ke_v cx hr hlk hI (Nat.zero_le _) (Nat.zero_le _) dX1_plays_63 rfl (congrArg (mw ad ca) (by simp [mPlays]))
    · have hI : KI D A (mw ad ca (mShift (mPlayL v cn) cn i)) s.heap H locs := hI
      have hl : lv_has ls 3 [(2, .int (nI (cn + i))), (1, .int (nI cn)), (0, .ref (ad 0))] := hl
      refine lv_iload_n cx.1 cx.2.1 dX1_plays_25 rfl (lv_at hl 0 rfl) ?_
      refine lv_aload_n cx.1 cx.2.1 dX1_plays_26 rfl (lv_at hl 2 rfl) ?_
      refine mg_10 cx hI dX1_plays_27 ?_
      refine lv_icmp_ge (tgt := 53) cx.1 cx.2.1 dX1_plays_30 (by decide) (fun h9 => absurd h9 (show ¬ mc (mShift (mPlayL v cn) cn i) ≤ nI (cn + i) by rw [mShift_c, hc2]; exact nI_ge (by omega) (by omega))) (fun _ => ?_)
      refine lv_aload_n cx.1 cx.2.1 dX1_plays_33 rfl (lv_at hl 2 rfl) ?_
      refine mg_11 cx hI dX1_plays_34 ?_
      refine lv_iload_n cx.1 cx.2.1 dX1_plays_37 rfl (lv_at hl 0 rfl) ?_
      refine lv_iload_n cx.1 cx.2.1 dX1_plays_38 rfl (lv_at hl 1 rfl) ?_
      refine lv_isub cx.1 cx.2.1 dX1_plays_39 ?_
      refine lv_aload_n cx.1 cx.2.1 dX1_plays_40 rfl (lv_at hl 2 rfl) ?_
      refine mg_11 cx hI dX1_plays_41 ?_
      refine lv_iload_n cx.1 cx.2.1 dX1_plays_44 rfl (lv_at hl 0 rfl) ?_
      refine ma_N cx hI (vp_in_nI (by omega) (by decide)) dX1_plays_45 ?_
      refine ms_N cx hI (by rw [pk_sub (by omega)]; exact vp_in_nI (by omega) (by decide)) dX1_plays_46 (fun H locs hI => ?_)
      refine lv_iinc (v := nI (cn + (i + 1))) (lv' := [(2, .int (nI (cn + (i + 1)))), (1, .int (nI cn)), (0, .ref (ad 0))]) cx.1 cx.2.1 dX1_plays_47 hl (k := 0) rfl (nI_1 (cn + i)) (by decide) rfl (fun ls hl => ?_)
      refine lv_goto (tgt := 25) cx.1 cx.2.1 dX1_plays_50 (by decide) ?_
      refine ih _ _ _ ?_ ?_
      · show KI D A (mw ad ca (mShift (mPlayL v cn) cn (i + 1))) s.heap _ _
        rw [show mShift (mPlayL v cn) cn (i + 1) = mUN (mShift (mPlayL v cn) cn i) (upd (mN (mShift (mPlayL v cn) cn i)) ((nI (cn + i)) - (nI cn)).toNatClampNeg (mN (mShift (mPlayL v cn) cn i) (nI (cn + i)).toNatClampNeg)) from rfl]
        exact hI
      · show lv_has _ _ [(2, .int (nI (cn + (i + 1)))), (1, .int (nI cn)), (0, .ref (ad 0))]
        exact lv_sub hl [0, 1, 2] rfl
  · have hI : KI D A (mw ad ca (mPlayL v i)) s.heap H locs := hI
    have hl : lv_has ls 3 [(2, .int (nI i)), (1, .int (nI cn)), (0, .ref (ad 0))] := hl
    refine lv_iload_n cx.1 cx.2.1 dX1_plays_2 rfl (lv_at hl 0 rfl) ?_
    refine lv_iload_n cx.1 cx.2.1 dX1_plays_3 rfl (lv_at hl 1 rfl) ?_
    refine lv_icmp_ge (tgt := 23) cx.1 cx.2.1 dX1_plays_4 (by decide) (fun h9 => absurd h9 (nI_ge hi (by omega))) (fun _ => ?_)
    refine lv_aload_n cx.1 cx.2.1 dX1_plays_7 rfl (lv_at hl 2 rfl) ?_
    refine lv_aload_n cx.1 cx.2.1 dX1_plays_8 rfl (lv_at hl 2 rfl) ?_
    refine mg_11 cx hI dX1_plays_9 ?_
    refine lv_iload_n cx.1 cx.2.1 dX1_plays_12 rfl (lv_at hl 0 rfl) ?_
    refine ma_N cx hI (vp_in_nI (show i < 2000 by omega) (by decide)) dX1_plays_13 ?_
    refine mc_v 1 cx (hl.1.trans hml.symm) (kX1_brings l D ca ad (mPlayL v i) (mN (mPlayL v i) (nI i).toNatClampNeg) (by rw [mPlayL_N]; exact hN i hi)) hI wk_524 wk_521 wk_523 wq_27 ⟨rfl, by decide +kernel⟩ rfl ⟨rfl, rfl⟩ ⟨Nat.le_of_ble_eq_true rfl, Nat.le_of_ble_eq_true rfl⟩ (Nat.le_of_ble_eq_true rfl) dX1_plays_14 ⟨Nat.zero_le _, Nat.zero_le _⟩ rfl (fun H locs hI => ?_)
    refine lv_iinc (v := nI (i + 1)) (lv' := [(2, .int (nI (i + 1))), (1, .int (nI cn)), (0, .ref (ad 0))]) cx.1 cx.2.1 dX1_plays_17 hl (k := 0) rfl (nI_1 i) (by decide) rfl (fun ls hl => ?_)
    refine lv_goto (tgt := 2) cx.1 cx.2.1 dX1_plays_20 (by decide) ?_
    refine ih _ _ _ ?_ ?_
    · show KI D A (mw ad ca (mPlayL v (i + 1))) s.heap _ _
      rw [show mPlayL v (i + 1) = mBrings (mPlayL v i) (mN (mPlayL v i) (nI i).toNatClampNeg) from rfl]
      exact hI
    · show lv_has _ _ [(2, .int (nI (i + 1))), (1, .int (nI cn)), (0, .ref (ad 0))]
      exact lv_sub hl [0, 1, 2] rfl
set_option maxHeartbeats 4000000 in
set_option maxRecDepth 100000 in
theorem kX1_tick (l : Launch) (D : va_G) (ca : Nat → ClassId) (ad : Nat → Nat) (v : MS) (lag : Int32) (cn r j : Nat) (hmk : mm v = nI j) (hj : ¬ (40 : Int32) ≤ mm v → j + cn ≤ 40) (hc : mMany v = nI cn) (hcn : cn ≤ 40) (hn : (40 : Int32) ≤ mm v → mc v = nI (cn + r)) (hn2 : cn + r ≤ 2000) (hN : (40 : Int32) ≤ mm v → ∀ j, j < cn → vp_in (mN v (nI j).toNatClampNeg) 40) : CM l yX1_tick cX1_tick 5 (some .int) (KR 4 88) D ca (mw ad ca v) [.ref (ad 0), .int lag] (some (.int (if mfTick v lag = 0 then (if lag ≤ ml v then mMany v else 0) else 0))) (mw ad ca (mTick v lag cn r)) := by
  refine CM.of (by decide) (Nat.le_of_ble_eq_true rfl) ?_
  intro p e s m below meth c A ls cx hml hr hlk hI hl
  have hl : lv_has ls 5 [(0, .ref (ad 0)), (1, .int lag)] := hl
  refine lv_aload_n cx.1 cx.2.1 dX1_tick_0 rfl (lv_at hl 0 rfl) ?_
  refine k_join (D := D) (A := A) 29 (mw ad ca v) [.int (mfTick v lag), .ref (ad 0)] (fun H locs hI => ?_) (fun hj29 => ?_)
  · refine mc_i 1 cx (hl.1.trans hml.symm) (kX1_can l D ca ad v (mfTick v lag)) hI wk_512 wk_509 wk_511 wq_24 ⟨rfl, by decide +kernel⟩ rfl ⟨rfl, rfl⟩ ⟨Nat.le_of_ble_eq_true rfl, Nat.le_of_ble_eq_true rfl⟩ (Nat.le_of_ble_eq_true rfl) dX1_tick_29 ⟨Nat.zero_le _, Nat.zero_le _⟩ rfl (fun H locs hI => ?_)
    refine kb_ne (tgt := 37) cx dX1_tick_32 (by decide) (fun c_1 => ?_) (fun c_1 => ?_)
    · refine lv_iload_n cx.1 cx.2.1 dX1_tick_37 rfl (lv_at hl 1 rfl) ?_
      refine lv_aload_n cx.1 cx.2.1 dX1_tick_38 rfl (lv_at hl 0 rfl) ?_
      refine mg_8 cx hI dX1_tick_39 ?_
      refine k_top (y := ml v) rfl ?_
      refine lv_icmp_le (tgt := 47) cx.1 cx.2.1 dX1_tick_42 (by decide) (fun c_2 => ?_) (fun c_2 => ?_)
      · refine k_join (D := D) (A := A) 70 (mw ad ca (mUz v (mfTick v lag))) [.int (mLeft v)] (fun H locs hI => ?_) (fun hj70 => ?_)
        · refine lv_istore_n (lv' := [(2, .int (mLeft v)), (0, .ref (ad 0)), (1, .int lag)]) cx.1 cx.2.1 dX1_tick_70 rfl hl (by decide) rfl (fun ls hl => ?_)
          refine k_join (D := D) (A := A) 87 (mw ad ca (mUz v (mfTick v lag))) [.int (mMany v)] (fun H locs hI => ?_) (fun hj87 => ?_)
          · refine lv_istore_n (lv' := [(3, .int (mMany v)), (2, .int (mLeft v)), (0, .ref (ad 0)), (1, .int lag)]) cx.1 cx.2.1 dX1_tick_87 rfl hl (by decide) rfl (fun ls hl => ?_)
            refine lv_aload_n cx.1 cx.2.1 dX1_tick_88 rfl (lv_at hl 2 rfl) ?_
            refine mg_9 cx hI dX1_tick_89 ?_
            refine k_top (y := mm v) rfl ?_
            refine lv_bipush (v := 40) cx.1 cx.2.1 dX1_tick_92 (by decide) ?_
            refine lv_icmp_ge (tgt := 133) cx.1 cx.2.1 dX1_tick_94 (by decide) (fun c_3 => ?_) (fun c_3 => ?_)
            · have c_MM := c_3
              refine lv_aload_n cx.1 cx.2.1 dX1_tick_133 rfl (lv_at hl 2 rfl) ?_
              refine lv_iload_n cx.1 cx.2.1 dX1_tick_134 rfl (lv_at hl 0 rfl) ?_
              refine mc_v 1 cx (hl.1.trans hml.symm) (kX1_plays l D ca ad (mUz v (mfTick v lag)) (mMany v) cn r hc (hn c_MM) hn2 (hN c_MM)) hI wk_563 wk_560 wk_562 wq_30 ⟨rfl, by decide +kernel⟩ rfl ⟨rfl, rfl⟩ ⟨Nat.le_of_ble_eq_true rfl, Nat.le_of_ble_eq_true rfl⟩ (Nat.le_of_ble_eq_true rfl) dX1_tick_135 ⟨Nat.zero_le _, Nat.zero_le _⟩ rfl (fun H locs hI => ?_)
              refine lv_iload_n cx.1 cx.2.1 dX1_tick_138 rfl (lv_at hl 0 rfl) ?_
              exact ke_i cx hr hlk hI (Nat.zero_le _) (Nat.zero_le _) dX1_tick_139 (congrArg (fun z => some (Value.int z)) (by simp [mTick, hc.symm, (of_decide_eq_true c_1), c_2, c_3])) (congrArg (mw ad ca) (by simp [mTick, hc.symm, (of_decide_eq_true c_1), c_2, c_3]))
            · have c_NM := c_3
              refine lv_iconst (v := 0) cx.1 cx.2.1 dX1_tick_97 (by decide) ?_
              refine lv_istore (lv' := [(4, .int 0), (3, .int (mMany v)), (2, .int (mLeft v)), (0, .ref (ad 0)), (1, .int lag)]) cx.1 cx.2.1 dX1_tick_98 hl (by decide) rfl (fun ls hl => ?_)
              refine k_loop cn (fun i => (mw ad ca (mTickL (mUz v (mfTick v lag)) i))) (fun i => [(4, .int (nI i)), (3, .int (nI cn)), (0, .ref (ad 0))]) hI (by show lv_has _ _ [(4, .int (nI 0)), (3, .int (nI cn)), (0, .ref (ad 0))]; rw [← hc]; exact lv_sub hl [0, 1, 3] rfl) (fun H locs ls hI hl => ?_) (fun i hi H locs ls hI hl ih => ?_)
              · have hI : KI D A (mw ad ca (mTickL (mUz v (mfTick v lag)) cn)) s.heap H locs := hI
                have hl : lv_has ls 5 [(4, .int (nI cn)), (3, .int (nI cn)), (0, .ref (ad 0))] := hl
                refine lv_iload cx.1 cx.2.1 dX1_tick_100 (lv_at hl 0 rfl) ?_
                refine lv_iload_n cx.1 cx.2.1 dX1_tick_102 rfl (lv_at hl 1 rfl) ?_
                refine lv_icmp_ge (tgt := 130) cx.1 cx.2.1 dX1_tick_103 (by decide) (fun _ => ?_) (fun h9 => absurd (Int32.le_refl _) h9)
                refine lv_goto (tgt := 138) cx.1 cx.2.1 dX1_tick_130 (by decide) ?_
                refine lv_iload_n cx.1 cx.2.1 dX1_tick_138 rfl (lv_at hl 1 rfl) ?_
                exact ke_i cx hr hlk hI (Nat.zero_le _) (Nat.zero_le _) dX1_tick_139 (congrArg (fun z => some (Value.int z)) (by simp [mTick, hc.symm, (of_decide_eq_true c_1), c_2, c_3])) (congrArg (mw ad ca) (by simp [mTick, hc.symm, (of_decide_eq_true c_1), c_2, c_3]))
              · have hI : KI D A (mw ad ca (mTickL (mUz v (mfTick v lag)) i)) s.heap H locs := hI
                have hl : lv_has ls 5 [(4, .int (nI i)), (3, .int (nI cn)), (0, .ref (ad 0))] := hl
                refine lv_iload cx.1 cx.2.1 dX1_tick_100 (lv_at hl 0 rfl) ?_
                refine lv_iload_n cx.1 cx.2.1 dX1_tick_102 rfl (lv_at hl 1 rfl) ?_
                refine lv_icmp_ge (tgt := 130) cx.1 cx.2.1 dX1_tick_103 (by decide) (fun h9 => absurd h9 (nI_ge hi (by omega))) (fun _ => ?_)
                refine lv_aload_n cx.1 cx.2.1 dX1_tick_106 rfl (lv_at hl 2 rfl) ?_
                refine lv_aload_n cx.1 cx.2.1 dX1_tick_107 rfl (lv_at hl 2 rfl) ?_
                refine mg_9 cx hI dX1_tick_108 ?_
                refine mc_v 1 cx (hl.1.trans hml.symm) (kX1_brings l D ca ad (mTickL (mUz v (mfTick v lag)) i) (mm (mTickL (mUz v (mfTick v lag)) i)) (by rw [mTickL_m (v := mUz v (mfTick v lag)) hmk]; exact vp_in_nI (by have := hj c_NM; omega) (by decide))) hI wk_524 wk_521 wk_523 wq_27 ⟨rfl, by decide +kernel⟩ rfl ⟨rfl, rfl⟩ ⟨Nat.le_of_ble_eq_true rfl, Nat.le_of_ble_eq_true rfl⟩ (Nat.le_of_ble_eq_true rfl) dX1_tick_111 ⟨Nat.zero_le _, Nat.zero_le _⟩ rfl (fun H locs hI => ?_)
                refine lv_aload_n cx.1 cx.2.1 dX1_tick_114 rfl (lv_at hl 2 rfl) ?_
                refine lv_dup cx.1 cx.2.1 dX1_tick_115 rfl ?_
                refine mg_9 cx hI dX1_tick_116 ?_
                refine lv_iconst (v := 1) cx.1 cx.2.1 dX1_tick_119 (by decide) ?_
                refine lv_iadd cx.1 cx.2.1 dX1_tick_120 ?_
                refine mp_9 cx hI dX1_tick_121 (fun H locs hI => ?_)
                refine lv_iinc (v := nI (i + 1)) (lv' := [(4, .int (nI (i + 1))), (3, .int (nI cn)), (0, .ref (ad 0))]) cx.1 cx.2.1 dX1_tick_124 hl (k := 0) rfl (nI_1 i) (by decide) rfl (fun ls hl => ?_)
                refine lv_goto (tgt := 100) cx.1 cx.2.1 dX1_tick_127 (by decide) ?_
                refine ih _ _ _ ?_ ?_
                · show KI D A (mw ad ca (mTickL (mUz v (mfTick v lag)) (i + 1))) s.heap _ _
                  rw [show mTickL (mUz v (mfTick v lag)) (i + 1) = mUm (mBrings (mTickL (mUz v (mfTick v lag)) i) (mm (mTickL (mUz v (mfTick v lag)) i))) ((mm (mBrings (mTickL (mUz v (mfTick v lag)) i) (mm (mTickL (mUz v (mfTick v lag)) i)))) + 1) from rfl]
                  exact hI
                · show lv_has _ _ [(4, .int (nI (i + 1))), (3, .int (nI cn)), (0, .ref (ad 0))]
                  exact lv_sub hl [0, 1, 2] rfl
          ·
            refine lv_iload_n cx.1 cx.2.1 dX1_tick_71 rfl (lv_at hl 0 rfl) ?_
            refine lv_aload_n cx.1 cx.2.1 dX1_tick_72 rfl (lv_at hl 1 rfl) ?_
            refine mg_7 cx hI dX1_tick_73 ?_
            refine k_top (y := mk v) rfl ?_
            refine lv_icmp_ge (tgt := 83) cx.1 cx.2.1 dX1_tick_76 (by decide) (fun c_6 => ?_) (fun c_6 => ?_)
            · refine lv_aload_n cx.1 cx.2.1 dX1_tick_83 rfl (lv_at hl 1 rfl) ?_
              refine mg_7 cx hI dX1_tick_84 ?_
              refine k_top (y := mk v) rfl ?_
              exact k_top (by first | (simp [mTick, hc.symm, (of_decide_eq_true c_1), c_2, c_6, mMany]; done) | (simp [mTick, hc.symm, (of_decide_eq_true c_1), c_2, mMany]; exact fun h => absurd c_6 h)) (hj87 _ _ hI)
            · refine lv_iload_n cx.1 cx.2.1 dX1_tick_79 rfl (lv_at hl 0 rfl) ?_
              refine lv_goto (tgt := 87) cx.1 cx.2.1 dX1_tick_80 (by decide) ?_
              exact k_top (by first | (simp [mTick, hc.symm, (of_decide_eq_true c_1), c_2, c_6, mMany]; done) | (simp [mTick, hc.symm, (of_decide_eq_true c_1), c_2, mMany]; exact fun h => absurd c_6 h)) (hj87 _ _ hI)
        ·
          refine lv_aload_n cx.1 cx.2.1 dX1_tick_47 rfl (lv_at hl 0 rfl) ?_
          refine mg_9 cx hI dX1_tick_48 ?_
          refine k_top (y := mm v) rfl ?_
          refine lv_bipush (v := 40) cx.1 cx.2.1 dX1_tick_51 (by decide) ?_
          refine lv_icmp_ge (tgt := 66) cx.1 cx.2.1 dX1_tick_53 (by decide) (fun c_7 => ?_) (fun c_7 => ?_)
          · refine lv_aload_n cx.1 cx.2.1 dX1_tick_66 rfl (lv_at hl 0 rfl) ?_
            refine mg_10 cx hI dX1_tick_67 ?_
            refine k_top (y := mc v) rfl ?_
            exact k_top (by first | (simp [mTick, hc.symm, (of_decide_eq_true c_1), c_2, c_7, mLeft]; done) | (simp [mTick, hc.symm, (of_decide_eq_true c_1), c_2, mLeft]; exact fun h => absurd c_7 h)) (hj70 _ _ hI)
          · refine lv_bipush (v := 40) cx.1 cx.2.1 dX1_tick_56 (by decide) ?_
            refine lv_aload_n cx.1 cx.2.1 dX1_tick_58 rfl (lv_at hl 0 rfl) ?_
            refine mg_9 cx hI dX1_tick_59 ?_
            refine k_top (y := mm v) rfl ?_
            refine lv_isub cx.1 cx.2.1 dX1_tick_62 ?_
            refine lv_goto (tgt := 70) cx.1 cx.2.1 dX1_tick_63 (by decide) ?_
            exact k_top (by first | (simp [mTick, hc.symm, (of_decide_eq_true c_1), c_2, c_7, mLeft]; done) | (simp [mTick, hc.symm, (of_decide_eq_true c_1), c_2, mLeft]; exact fun h => absurd c_7 h)) (hj70 _ _ hI)
      · refine lv_iconst (v := 0) cx.1 cx.2.1 dX1_tick_45 (by decide) ?_
        exact ke_i cx hr hlk hI (Nat.zero_le _) (Nat.zero_le _) dX1_tick_46 (congrArg (fun z => some (Value.int z)) (by simp [mTick, hc.symm, (of_decide_eq_true c_1), c_2])) (congrArg (mw ad ca) (by simp [mTick, hc.symm, (of_decide_eq_true c_1), c_2]))
    · refine lv_iconst (v := 0) cx.1 cx.2.1 dX1_tick_35 (by decide) ?_
      exact ke_i cx hr hlk hI (Nat.zero_le _) (Nat.zero_le _) dX1_tick_36 (congrArg (fun z => some (Value.int z)) (by simp [mTick, hc.symm, (of_decide_eq_false c_1)])) (congrArg (mw ad ca) (by simp [mTick, hc.symm, (of_decide_eq_false c_1)]))
  ·
    refine lv_iload_n cx.1 cx.2.1 dX1_tick_1 rfl (lv_at hl 1 rfl) ?_
    refine lv_iconst (v := 0) cx.1 cx.2.1 dX1_tick_2 (by decide) ?_
    refine lv_sipush (v := 1000) cx.1 cx.2.1 dX1_tick_3 (by decide) ?_
    refine ks_i 3 cx (hl.1.trans hml.symm) (kX1_isIn l D ca lag 0 1000) hI wk_497 wk_495 wk_496 wk_3 ⟨by decide, by decide, by decide +kernel⟩ rfl ⟨rfl, rfl⟩ ⟨Nat.le_of_ble_eq_true rfl, Nat.le_of_ble_eq_true rfl⟩ (Nat.le_of_ble_eq_true rfl) dX1_tick_6 ⟨Nat.zero_le _, Nat.zero_le _⟩ rfl (fun H locs hI => ?_)
    refine kb_ne (tgt := 16) cx dX1_tick_9 (by decide) (fun c_8 => ?_) (fun c_8 => ?_)
    · refine lv_aload_n cx.1 cx.2.1 dX1_tick_16 rfl (lv_at hl 0 rfl) ?_
      refine mg_4 cx hI dX1_tick_17 ?_
      refine lv_iconst (v := 1) cx.1 cx.2.1 dX1_tick_20 (by decide) ?_
      refine lv_icmp_ne (tgt := 28) cx.1 cx.2.1 dX1_tick_21 (by decide) (fun c_9 => ?_) (fun c_9 => ?_)
      · refine lv_iconst (v := 2) cx.1 cx.2.1 dX1_tick_28 (by decide) ?_
        exact k_top (by first | (simp [mTick, hc.symm, c_8, c_9, mfTick]; done) | (simp [mTick, hc.symm, c_8, mfTick]; exact fun h => absurd c_9 h)) (hj29 _ _ hI)
      · refine lv_iconst (v := 0) cx.1 cx.2.1 dX1_tick_24 (by decide) ?_
        refine lv_goto (tgt := 29) cx.1 cx.2.1 dX1_tick_25 (by decide) ?_
        exact k_top (by first | (simp [mTick, hc.symm, c_8, c_9, mfTick]; done) | (simp [mTick, hc.symm, c_8, mfTick]; exact fun h => absurd c_9 h)) (hj29 _ _ hI)
    · refine lv_iconst (v := 1) cx.1 cx.2.1 dX1_tick_12 (by decide) ?_
      refine lv_goto (tgt := 29) cx.1 cx.2.1 dX1_tick_13 (by decide) ?_
      exact k_top (by first | (simp [mTick, hc.symm, c_8, mfTick]; done) | (simp [mTick, hc.symm, mfTick]; exact fun h => absurd c_8 h)) (hj29 _ _ hI)
set_option maxHeartbeats 4000000 in
set_option maxRecDepth 100000 in
theorem kX1_cutOver (l : Launch) (D : va_G) (ca : Nat → ClassId) (ad : Nat → Nat) (v : MS) (most : Int32) (nn : Nat) (hn : mc v = nI nn) (hn2 : nn ≤ 2000) (hN : ∀ j, j < nn → vp_in (mN v (nI j).toNatClampNeg) 40) : CM l yX1_cutOver cX1_cutOver 3 (some .int) (KR 4 88) D ca (mw ad ca v) [.ref (ad 0), .int most] (some (.int (if mfCut v most = 0 then mc v else 0))) (mw ad ca (mCut v most nn)) := by
  refine CM.of (by decide) (Nat.le_of_ble_eq_true rfl) ?_
  intro p e s m below meth c A ls cx hml hr hlk hI hl
  have hl : lv_has ls 3 [(0, .ref (ad 0)), (1, .int most)] := hl
  refine lv_aload_n cx.1 cx.2.1 dX1_cutOver_0 rfl (lv_at hl 0 rfl) ?_
  refine k_join (D := D) (A := A) 46 (mw ad ca v) [.int (mfCut v most), .ref (ad 0)] (fun H locs hI => ?_) (fun hj46 => ?_)
  · refine mc_i 1 cx (hl.1.trans hml.symm) (kX1_can l D ca ad v (mfCut v most)) hI wk_512 wk_509 wk_511 wq_24 ⟨rfl, by decide +kernel⟩ rfl ⟨rfl, rfl⟩ ⟨Nat.le_of_ble_eq_true rfl, Nat.le_of_ble_eq_true rfl⟩ (Nat.le_of_ble_eq_true rfl) dX1_cutOver_46 ⟨Nat.zero_le _, Nat.zero_le _⟩ rfl (fun H locs hI => ?_)
    refine kb_ne (tgt := 54) cx dX1_cutOver_49 (by decide) (fun c_1 => ?_) (fun c_1 => ?_)
    · refine lv_aload_n cx.1 cx.2.1 dX1_cutOver_54 rfl (lv_at hl 0 rfl) ?_
      refine mg_10 cx hI dX1_cutOver_55 ?_
      refine k_top (y := mc v) rfl ?_
      refine k_top (y := mc v) rfl ?_
      refine lv_istore_n (lv' := [(2, .int (mc v)), (0, .ref (ad 0)), (1, .int most)]) cx.1 cx.2.1 dX1_cutOver_58 rfl hl (by decide) rfl (fun ls hl => ?_)
      refine lv_aload_n cx.1 cx.2.1 dX1_cutOver_59 rfl (lv_at hl 1 rfl) ?_
      refine lv_iload_n cx.1 cx.2.1 dX1_cutOver_60 rfl (lv_at hl 0 rfl) ?_
      refine mc_v 1 cx (hl.1.trans hml.symm) (kX1_plays l D ca ad (mUz v (mfCut v most)) (mc v) nn 0 hn hn hn2 hN) hI wk_563 wk_560 wk_562 wq_30 ⟨rfl, by decide +kernel⟩ rfl ⟨rfl, rfl⟩ ⟨Nat.le_of_ble_eq_true rfl, Nat.le_of_ble_eq_true rfl⟩ (Nat.le_of_ble_eq_true rfl) dX1_cutOver_61 ⟨Nat.zero_le _, Nat.zero_le _⟩ rfl (fun H locs hI => ?_)
      refine lv_aload_n cx.1 cx.2.1 dX1_cutOver_64 rfl (lv_at hl 1 rfl) ?_
      refine lv_iconst (v := 2) cx.1 cx.2.1 dX1_cutOver_65 (by decide) ?_
      refine mp_4 cx hI dX1_cutOver_66 (fun H locs hI => ?_)
      refine lv_iload_n cx.1 cx.2.1 dX1_cutOver_69 rfl (lv_at hl 0 rfl) ?_
      exact ke_i cx hr hlk hI (Nat.zero_le _) (Nat.zero_le _) dX1_cutOver_70 (congrArg (fun z => some (Value.int z)) (by simp [mCut, (of_decide_eq_true c_1)])) (congrArg (mw ad ca) (by simp [mCut, (of_decide_eq_true c_1)]))
    · refine lv_iconst (v := 0) cx.1 cx.2.1 dX1_cutOver_52 (by decide) ?_
      exact ke_i cx hr hlk hI (Nat.zero_le _) (Nat.zero_le _) dX1_cutOver_53 (congrArg (fun z => some (Value.int z)) (by simp [mCut, (of_decide_eq_false c_1)])) (congrArg (mw ad ca) (by simp [mCut, (of_decide_eq_false c_1)]))
  ·
    refine lv_iload_n cx.1 cx.2.1 dX1_cutOver_1 rfl (lv_at hl 1 rfl) ?_
    refine lv_iconst (v := 0) cx.1 cx.2.1 dX1_cutOver_2 (by decide) ?_
    refine lv_sipush (v := 1000) cx.1 cx.2.1 dX1_cutOver_3 (by decide) ?_
    refine ks_i 3 cx (hl.1.trans hml.symm) (kX1_isIn l D ca most 0 1000) hI wk_497 wk_495 wk_496 wk_3 ⟨by decide, by decide, by decide +kernel⟩ rfl ⟨rfl, rfl⟩ ⟨Nat.le_of_ble_eq_true rfl, Nat.le_of_ble_eq_true rfl⟩ (Nat.le_of_ble_eq_true rfl) dX1_cutOver_6 ⟨Nat.zero_le _, Nat.zero_le _⟩ rfl (fun H locs hI => ?_)
    refine kb_ne (tgt := 16) cx dX1_cutOver_9 (by decide) (fun c_2 => ?_) (fun c_2 => ?_)
    · refine lv_aload_n cx.1 cx.2.1 dX1_cutOver_16 rfl (lv_at hl 0 rfl) ?_
      refine mg_4 cx hI dX1_cutOver_17 ?_
      refine lv_iconst (v := 1) cx.1 cx.2.1 dX1_cutOver_20 (by decide) ?_
      refine lv_icmp_ne (tgt := 41) cx.1 cx.2.1 dX1_cutOver_21 (by decide) (fun c_3 => ?_) (fun c_3 => ?_)
      · refine lv_iconst (v := 2) cx.1 cx.2.1 dX1_cutOver_41 (by decide) ?_
        refine lv_goto (tgt := 46) cx.1 cx.2.1 dX1_cutOver_42 (by decide) ?_
        exact k_top (by first | (simp [mCut, c_2, c_3, mfCut]; done) | (simp [mCut, c_2, mfCut]; exact fun h => absurd c_3 h)) (hj46 _ _ hI)
      · refine lv_aload_n cx.1 cx.2.1 dX1_cutOver_24 rfl (lv_at hl 0 rfl) ?_
        refine mg_9 cx hI dX1_cutOver_25 ?_
        refine lv_bipush (v := 40) cx.1 cx.2.1 dX1_cutOver_28 (by decide) ?_
        refine lv_icmp_lt (tgt := 41) cx.1 cx.2.1 dX1_cutOver_30 (by decide) (fun c_4 => ?_) (fun c_4 => ?_)
        · refine lv_iconst (v := 2) cx.1 cx.2.1 dX1_cutOver_41 (by decide) ?_
          refine lv_goto (tgt := 46) cx.1 cx.2.1 dX1_cutOver_42 (by decide) ?_
          exact k_top (by first | (simp [mCut, c_2, c_3, c_4, mfCut]; done) | (simp [mCut, c_2, c_3, mfCut]; exact fun h => absurd c_4 h)) (hj46 _ _ hI)
        · refine lv_aload_n cx.1 cx.2.1 dX1_cutOver_33 rfl (lv_at hl 0 rfl) ?_
          refine mg_10 cx hI dX1_cutOver_34 ?_
          refine lv_iload_n cx.1 cx.2.1 dX1_cutOver_37 rfl (lv_at hl 1 rfl) ?_
          refine lv_icmp_le (tgt := 45) cx.1 cx.2.1 dX1_cutOver_38 (by decide) (fun c_5 => ?_) (fun c_5 => ?_)
          · refine lv_iconst (v := 0) cx.1 cx.2.1 dX1_cutOver_45 (by decide) ?_
            exact k_top (by first | (simp [mCut, c_2, c_3, c_4, c_5, mfCut]; done) | (simp [mCut, c_2, c_3, c_4, mfCut]; exact fun h => absurd c_5 h)) (hj46 _ _ hI)
          · refine lv_iconst (v := 2) cx.1 cx.2.1 dX1_cutOver_41 (by decide) ?_
            refine lv_goto (tgt := 46) cx.1 cx.2.1 dX1_cutOver_42 (by decide) ?_
            exact k_top (by first | (simp [mCut, c_2, c_3, c_4, c_5, mfCut]; done) | (simp [mCut, c_2, c_3, c_4, mfCut]; exact fun h => absurd c_5 h)) (hj46 _ _ hI)
    · refine lv_iconst (v := 1) cx.1 cx.2.1 dX1_cutOver_12 (by decide) ?_
      refine lv_goto (tgt := 46) cx.1 cx.2.1 dX1_cutOver_13 (by decide) ?_
      exact k_top (by first | (simp [mCut, c_2, mfCut]; done) | (simp [mCut, mfCut]; exact fun h => absurd c_2 h)) (hj46 _ _ hI)
set_option maxHeartbeats 4000000 in
set_option maxRecDepth 100000 in
theorem kX1_undo (l : Launch) (D : va_G) (ca : Nat → ClassId) (ad : Nat → Nat) (v : MS) : CM l yX1_undo cX1_undo 1 none (KR 1 21) D ca (mw ad ca v) [.ref (ad 0)] none (mw ad ca (mUndo v)) := by
  refine CM.of (by decide) (Nat.le_of_ble_eq_true rfl) ?_
  intro p e s m below meth c A ls cx hml hr hlk hI hl
  have hl : lv_has ls 1 [(0, .ref (ad 0))] := hl
  refine lv_aload_n cx.1 cx.2.1 dX1_undo_0 rfl (lv_at hl 0 rfl) ?_
  refine k_join (D := D) (A := A) 14 (mw ad ca v) [.int (mfUndo v), .ref (ad 0)] (fun H locs hI => ?_) (fun hj14 => ?_)
  · refine mc_i 1 cx (hl.1.trans hml.symm) (kX1_can l D ca ad v (mfUndo v)) hI wk_512 wk_509 wk_511 wq_24 ⟨rfl, by decide +kernel⟩ rfl ⟨rfl, rfl⟩ ⟨Nat.le_of_ble_eq_true rfl, Nat.le_of_ble_eq_true rfl⟩ (Nat.le_of_ble_eq_true rfl) dX1_undo_14 ⟨Nat.zero_le _, Nat.zero_le _⟩ rfl (fun H locs hI => ?_)
    refine kb_eq (tgt := 25) cx dX1_undo_17 (by decide) (fun c_1 => ?_) (fun c_1 => ?_)
    · exact ke_v cx hr hlk hI (Nat.zero_le _) (Nat.zero_le _) dX1_undo_25 rfl (congrArg (mw ad ca) (by simp [mUndo, (of_decide_eq_false c_1)]))
    · refine lv_aload_n cx.1 cx.2.1 dX1_undo_20 rfl (lv_at hl 0 rfl) ?_
      refine lv_iconst (v := 1) cx.1 cx.2.1 dX1_undo_21 (by decide) ?_
      refine mp_4 cx hI dX1_undo_22 (fun H locs hI => ?_)
      exact ke_v cx hr hlk hI (Nat.zero_le _) (Nat.zero_le _) dX1_undo_25 rfl (congrArg (mw ad ca) (by simp [mUndo, (of_decide_eq_true c_1)]))
  ·
    refine lv_aload_n cx.1 cx.2.1 dX1_undo_1 rfl (lv_at hl 0 rfl) ?_
    refine mg_4 cx hI dX1_undo_2 ?_
    refine lv_iconst (v := 2) cx.1 cx.2.1 dX1_undo_5 (by decide) ?_
    refine lv_icmp_ne (tgt := 13) cx.1 cx.2.1 dX1_undo_6 (by decide) (fun c_2 => ?_) (fun c_2 => ?_)
    · refine lv_iconst (v := 1) cx.1 cx.2.1 dX1_undo_13 (by decide) ?_
      exact k_top (by first | (simp [mUndo, c_2, mfUndo]; done) | (simp [mUndo, mfUndo]; exact fun h => absurd c_2 h)) (hj14 _ _ hI)
    · refine lv_iconst (v := 0) cx.1 cx.2.1 dX1_undo_9 (by decide) ?_
      refine lv_goto (tgt := 14) cx.1 cx.2.1 dX1_undo_10 (by decide) ?_
      exact k_top (by first | (simp [mUndo, c_2, mfUndo]; done) | (simp [mUndo, mfUndo]; exact fun h => absurd c_2 h)) (hj14 _ _ hI)
set_option maxHeartbeats 4000000 in
set_option maxRecDepth 100000 in
theorem kX1_shadowed (l : Launch) (D : va_G) (ca : Nat → ClassId) (ad : Nat → Nat) (v : MS) : CM l yX1_shadowed cX1_shadowed 3 (some .int) (KR 0 0) D ca (mw ad ca v) [.ref (ad 0)] (some (.int (mShd v 40))) (mw ad ca v) := by
  refine CM.of (by decide) (Nat.le_of_ble_eq_true rfl) ?_
  intro p e s m below meth c A ls cx hml hr hlk hI hl
  have hl : lv_has ls 3 [(0, .ref (ad 0))] := hl
  refine lv_iconst (v := 0) cx.1 cx.2.1 dX1_shadowed_0 (by decide) ?_
  refine lv_istore_n (lv' := [(1, .int 0), (0, .ref (ad 0))]) cx.1 cx.2.1 dX1_shadowed_1 rfl hl (by decide) rfl (fun ls hl => ?_)
  refine lv_iconst (v := 0) cx.1 cx.2.1 dX1_shadowed_2 (by decide) ?_
  refine lv_istore_n (lv' := [(2, .int 0), (1, .int 0), (0, .ref (ad 0))]) cx.1 cx.2.1 dX1_shadowed_3 rfl hl (by decide) rfl (fun ls hl => ?_)
  refine k_loop 40 (fun i => (mw ad ca v)) (fun i => [(2, .int (nI i)), (1, .int (mShd v i)), (0, .ref (ad 0))]) hI (lv_sub hl [0, 1, 2] rfl) (fun H locs ls hI hl => ?_) (fun i hi H locs ls hI hl ih => ?_)
  · have hI : KI D A (mw ad ca v) s.heap H locs := hI
    have hl : lv_has ls 3 [(2, .int (nI 40)), (1, .int (mShd v 40)), (0, .ref (ad 0))] := hl
    refine lv_iload_n cx.1 cx.2.1 dX1_shadowed_4 rfl (lv_at hl 0 rfl) ?_
    refine lv_bipush (v := 40) cx.1 cx.2.1 dX1_shadowed_5 (by decide) ?_
    refine lv_icmp_ge (tgt := 33) cx.1 cx.2.1 dX1_shadowed_7 (by decide) (fun _ => ?_) (fun h9 => absurd (by decide : (40 : Int32) ≤ nI 40) h9)
    refine lv_iload_n cx.1 cx.2.1 dX1_shadowed_33 rfl (lv_at hl 1 rfl) ?_
    exact ke_i cx hr hlk hI (Nat.zero_le _) (Nat.zero_le _) dX1_shadowed_34 rfl rfl
  · have hI : KI D A (mw ad ca v) s.heap H locs := hI
    have hl : lv_has ls 3 [(2, .int (nI i)), (1, .int (mShd v i)), (0, .ref (ad 0))] := hl
    refine lv_iload_n cx.1 cx.2.1 dX1_shadowed_4 rfl (lv_at hl 0 rfl) ?_
    refine lv_bipush (v := 40) cx.1 cx.2.1 dX1_shadowed_5 (by decide) ?_
    refine lv_icmp_ge (tgt := 33) cx.1 cx.2.1 dX1_shadowed_7 (by decide) (fun h9 => absurd h9 (nI_ge hi (by decide))) (fun _ => ?_)
    refine lv_iload_n cx.1 cx.2.1 dX1_shadowed_10 rfl (lv_at hl 1 rfl) ?_
    refine lv_aload_n cx.1 cx.2.1 dX1_shadowed_11 rfl (lv_at hl 2 rfl) ?_
    refine mg_2 cx hI dX1_shadowed_12 ?_
    refine lv_iload_n cx.1 cx.2.1 dX1_shadowed_15 rfl (lv_at hl 0 rfl) ?_
    refine ma_H cx hI (vp_in_nI hi (by decide)) dX1_shadowed_16 ?_
    refine k_join (D := D) (A := A) 25 (mw ad ca v) [.int (b2i (!decide (mH v (nI i).toNatClampNeg = 0))), .int (mShd v i)] (fun H locs hI => ?_) (fun hj25 => ?_)
    · refine lv_iadd cx.1 cx.2.1 dX1_shadowed_25 ?_
      refine lv_istore_n (lv' := [(1, .int ((mShd v i) + (b2i (!decide (mH v (nI i).toNatClampNeg = 0))))), (2, .int (nI i)), (0, .ref (ad 0))]) cx.1 cx.2.1 dX1_shadowed_26 rfl hl (by decide) rfl (fun ls hl => ?_)
      refine lv_iinc (v := nI (i + 1)) (lv' := [(2, .int (nI (i + 1))), (1, .int ((mShd v i) + (b2i (!decide (mH v (nI i).toNatClampNeg = 0))))), (0, .ref (ad 0))]) cx.1 cx.2.1 dX1_shadowed_27 hl (k := 1) rfl (nI_1 i) (by decide) rfl (fun ls hl => ?_)
      refine lv_goto (tgt := 4) cx.1 cx.2.1 dX1_shadowed_30 (by decide) ?_
      refine ih _ _ _ ?_ ?_
      · show KI D A (mw ad ca v) s.heap _ _
        exact hI
      · show lv_has _ _ [(2, .int (nI (i + 1))), (1, .int (mShd v (i + 1))), (0, .ref (ad 0))]
        rw [show mShd v (i + 1) = (mShd v i) + (b2i (!decide (mH v (nI i).toNatClampNeg = 0))) from (by simp [mShd, kSum])]
        exact lv_sub hl [0, 1, 2] rfl
    ·
      refine lv_if_eq (tgt := 24) cx.1 cx.2.1 dX1_shadowed_17 (by decide) (fun c_3 => ?_) (fun c_3 => ?_)
      · refine lv_iconst (v := 0) cx.1 cx.2.1 dX1_shadowed_24 (by decide) ?_
        exact k_top (by first | (simp [c_3, b2i]; done) | (simp [b2i]; exact fun h => absurd c_3 h)) (hj25 _ _ hI)
      · refine lv_iconst (v := 1) cx.1 cx.2.1 dX1_shadowed_20 (by decide) ?_
        refine lv_goto (tgt := 25) cx.1 cx.2.1 dX1_shadowed_21 (by decide) ?_
        exact k_top (by first | (simp [c_3, b2i]; done) | (simp [b2i]; exact fun h => absurd c_3 h)) (hj25 _ _ hI)
set_option maxHeartbeats 4000000 in
set_option maxRecDepth 100000 in
theorem kX1_finish (l : Launch) (D : va_G) (ca : Nat → ClassId) (ad : Nat → Nat) (v : MS) : CM l yX1_finish cX1_finish 3 (some .int) (KR 1 21) D ca (mw ad ca v) [.ref (ad 0)] (some (.int (if mfUndo v = 0 then mRemN (mUz v (mfUndo v)) 40 else 0))) (mw ad ca (mFinish v)) := by
  refine CM.of (by decide) (Nat.le_of_ble_eq_true rfl) ?_
  intro p e s m below meth c A ls cx hml hr hlk hI hl
  have hl : lv_has ls 3 [(0, .ref (ad 0))] := hl
  refine lv_aload_n cx.1 cx.2.1 dX1_finish_0 rfl (lv_at hl 0 rfl) ?_
  refine k_join (D := D) (A := A) 14 (mw ad ca v) [.int (mfUndo v), .ref (ad 0)] (fun H locs hI => ?_) (fun hj14 => ?_)
  · refine mc_i 1 cx (hl.1.trans hml.symm) (kX1_can l D ca ad v (mfUndo v)) hI wk_512 wk_509 wk_511 wq_24 ⟨rfl, by decide +kernel⟩ rfl ⟨rfl, rfl⟩ ⟨Nat.le_of_ble_eq_true rfl, Nat.le_of_ble_eq_true rfl⟩ (Nat.le_of_ble_eq_true rfl) dX1_finish_14 ⟨Nat.zero_le _, Nat.zero_le _⟩ rfl (fun H locs hI => ?_)
    refine kb_ne (tgt := 22) cx dX1_finish_17 (by decide) (fun c_1 => ?_) (fun c_1 => ?_)
    · refine lv_iconst (v := 0) cx.1 cx.2.1 dX1_finish_22 (by decide) ?_
      refine lv_istore_n (lv' := [(1, .int 0), (0, .ref (ad 0))]) cx.1 cx.2.1 dX1_finish_23 rfl hl (by decide) rfl (fun ls hl => ?_)
      refine lv_iconst (v := 0) cx.1 cx.2.1 dX1_finish_24 (by decide) ?_
      refine lv_istore_n (lv' := [(2, .int 0), (1, .int 0), (0, .ref (ad 0))]) cx.1 cx.2.1 dX1_finish_25 rfl hl (by decide) rfl (fun ls hl => ?_)
      refine k_loop 40 (fun i => (mw ad ca (mRem (mUz v (mfUndo v)) i))) (fun i => [(2, .int (nI i)), (1, .int (mRemN (mUz v (mfUndo v)) i)), (0, .ref (ad 0))]) hI (lv_sub hl [0, 1, 2] rfl) (fun H locs ls hI hl => ?_) (fun i hi H locs ls hI hl ih => ?_)
      · have hI : KI D A (mw ad ca (mRem (mUz v (mfUndo v)) 40)) s.heap H locs := hI
        have hl : lv_has ls 3 [(2, .int (nI 40)), (1, .int (mRemN (mUz v (mfUndo v)) 40)), (0, .ref (ad 0))] := hl
        refine lv_iload_n cx.1 cx.2.1 dX1_finish_26 rfl (lv_at hl 0 rfl) ?_
        refine lv_bipush (v := 40) cx.1 cx.2.1 dX1_finish_27 (by decide) ?_
        refine lv_icmp_ge (tgt := 67) cx.1 cx.2.1 dX1_finish_29 (by decide) (fun _ => ?_) (fun h9 => absurd (by decide : (40 : Int32) ≤ nI 40) h9)
        refine lv_aload_n cx.1 cx.2.1 dX1_finish_67 rfl (lv_at hl 2 rfl) ?_
        refine mc_v 0 cx (hl.1.trans hml.symm) (kX1_clears l D ca ad (mRem (mUz v (mfUndo v)) 40)) hI wk_551 wk_548 wk_550 wq_29 ⟨rfl, by decide +kernel⟩ rfl ⟨rfl, rfl⟩ ⟨Nat.le_of_ble_eq_true rfl, Nat.le_of_ble_eq_true rfl⟩ (Nat.le_of_ble_eq_true rfl) dX1_finish_68 ⟨Nat.zero_le _, Nat.zero_le _⟩ rfl (fun H locs hI => ?_)
        refine lv_aload_n cx.1 cx.2.1 dX1_finish_71 rfl (lv_at hl 2 rfl) ?_
        refine lv_iconst (v := 0) cx.1 cx.2.1 dX1_finish_72 (by decide) ?_
        refine mp_4 cx hI dX1_finish_73 (fun H locs hI => ?_)
        refine lv_iload_n cx.1 cx.2.1 dX1_finish_76 rfl (lv_at hl 1 rfl) ?_
        exact ke_i cx hr hlk hI (Nat.zero_le _) (Nat.zero_le _) dX1_finish_77 (congrArg (fun z => some (Value.int z)) (by simp [mFinish, (of_decide_eq_true c_1)])) (congrArg (mw ad ca) (by simp [mFinish, (of_decide_eq_true c_1)]))
      · have hI : KI D A (mw ad ca (mRem (mUz v (mfUndo v)) i)) s.heap H locs := hI
        have hl : lv_has ls 3 [(2, .int (nI i)), (1, .int (mRemN (mUz v (mfUndo v)) i)), (0, .ref (ad 0))] := hl
        refine lv_iload_n cx.1 cx.2.1 dX1_finish_26 rfl (lv_at hl 0 rfl) ?_
        refine lv_bipush (v := 40) cx.1 cx.2.1 dX1_finish_27 (by decide) ?_
        refine lv_icmp_ge (tgt := 67) cx.1 cx.2.1 dX1_finish_29 (by decide) (fun h9 => absurd h9 (nI_ge hi (by decide))) (fun _ => ?_)
        refine lv_aload_n cx.1 cx.2.1 dX1_finish_32 rfl (lv_at hl 2 rfl) ?_
        refine mg_0 cx hI dX1_finish_33 ?_
        refine lv_iload_n cx.1 cx.2.1 dX1_finish_36 rfl (lv_at hl 0 rfl) ?_
        refine ma_O cx hI (vp_in_nI hi (by decide)) dX1_finish_37 ?_
        refine lv_iconst (v := (-1)) cx.1 cx.2.1 dX1_finish_38 (by decide) ?_
        refine lv_icmp_eq (tgt := 61) cx.1 cx.2.1 dX1_finish_39 (by decide) (fun c_4 => ?_) (fun c_4 => ?_)
        · refine lv_iinc (v := nI (i + 1)) (lv' := [(2, .int (nI (i + 1))), (1, .int (mRemN (mUz v (mfUndo v)) i)), (0, .ref (ad 0))]) cx.1 cx.2.1 dX1_finish_61 hl (k := 0) rfl (nI_1 i) (by decide) rfl (fun ls hl => ?_)
          refine lv_goto (tgt := 26) cx.1 cx.2.1 dX1_finish_64 (by decide) ?_
          refine ih _ _ _ ?_ ?_
          · show KI D A (mw ad ca (mRem (mUz v (mfUndo v)) (i + 1))) s.heap _ _
            rw [show mRem (mUz v (mfUndo v)) (i + 1) = mRem (mUz v (mfUndo v)) i from (by simp [mFinish, c_4, mRem, mGo])]
            exact hI
          · show lv_has _ _ [(2, .int (nI (i + 1))), (1, .int (mRemN (mUz v (mfUndo v)) (i + 1))), (0, .ref (ad 0))]
            rw [show mRemN (mUz v (mfUndo v)) (i + 1) = mRemN (mUz v (mfUndo v)) i from (by simp [mFinish, c_4, mRemN, mGo, b2i])]
            exact lv_sub hl [0, 1, 2] rfl
        · refine lv_aload_n cx.1 cx.2.1 dX1_finish_42 rfl (lv_at hl 2 rfl) ?_
          refine mg_2 cx hI dX1_finish_43 ?_
          refine lv_iload_n cx.1 cx.2.1 dX1_finish_46 rfl (lv_at hl 0 rfl) ?_
          refine ma_H cx hI (vp_in_nI hi (by decide)) dX1_finish_47 ?_
          refine lv_if_ne (tgt := 61) cx.1 cx.2.1 dX1_finish_48 (by decide) (fun c_5 => ?_) (fun c_5 => ?_)
          · refine lv_iinc (v := nI (i + 1)) (lv' := [(2, .int (nI (i + 1))), (1, .int (mRemN (mUz v (mfUndo v)) i)), (0, .ref (ad 0))]) cx.1 cx.2.1 dX1_finish_61 hl (k := 0) rfl (nI_1 i) (by decide) rfl (fun ls hl => ?_)
            refine lv_goto (tgt := 26) cx.1 cx.2.1 dX1_finish_64 (by decide) ?_
            refine ih _ _ _ ?_ ?_
            · show KI D A (mw ad ca (mRem (mUz v (mfUndo v)) (i + 1))) s.heap _ _
              rw [show mRem (mUz v (mfUndo v)) (i + 1) = mRem (mUz v (mfUndo v)) i from (by simp [mFinish, c_4, c_5, mRem, mGo])]
              exact hI
            · show lv_has _ _ [(2, .int (nI (i + 1))), (1, .int (mRemN (mUz v (mfUndo v)) (i + 1))), (0, .ref (ad 0))]
              rw [show mRemN (mUz v (mfUndo v)) (i + 1) = mRemN (mUz v (mfUndo v)) i from (by simp [mFinish, c_4, c_5, mRemN, mGo, b2i])]
              exact lv_sub hl [0, 1, 2] rfl
          · refine lv_aload_n cx.1 cx.2.1 dX1_finish_51 rfl (lv_at hl 2 rfl) ?_
            refine mg_0 cx hI dX1_finish_52 ?_
            refine lv_iload_n cx.1 cx.2.1 dX1_finish_55 rfl (lv_at hl 0 rfl) ?_
            refine lv_iconst (v := (-1)) cx.1 cx.2.1 dX1_finish_56 (by decide) ?_
            refine ms_O cx hI (vp_in_nI hi (by decide)) dX1_finish_57 (fun H locs hI => ?_)
            refine lv_iinc (v := mRemN (mUz v (mfUndo v)) i + 1) (lv' := [(1, .int (mRemN (mUz v (mfUndo v)) i + 1)), (2, .int (nI i)), (0, .ref (ad 0))]) cx.1 cx.2.1 dX1_finish_58 hl (k := 1) rfl rfl (by decide) rfl (fun ls hl => ?_)
            refine lv_iinc (v := nI (i + 1)) (lv' := [(2, .int (nI (i + 1))), (1, .int (mRemN (mUz v (mfUndo v)) i + 1)), (0, .ref (ad 0))]) cx.1 cx.2.1 dX1_finish_61 hl (k := 1) rfl (nI_1 i) (by decide) rfl (fun ls hl => ?_)
            refine lv_goto (tgt := 26) cx.1 cx.2.1 dX1_finish_64 (by decide) ?_
            refine ih _ _ _ ?_ ?_
            · show KI D A (mw ad ca (mRem (mUz v (mfUndo v)) (i + 1))) s.heap _ _
              rw [show mRem (mUz v (mfUndo v)) (i + 1) = mUO (mRem (mUz v (mfUndo v)) i) (upd (mO (mRem (mUz v (mfUndo v)) i)) (nI i).toNatClampNeg (-1)) from (by simp [mFinish, c_4, c_5, mRem, mGo])]
              exact hI
            · show lv_has _ _ [(2, .int (nI (i + 1))), (1, .int (mRemN (mUz v (mfUndo v)) (i + 1))), (0, .ref (ad 0))]
              rw [show mRemN (mUz v (mfUndo v)) (i + 1) = mRemN (mUz v (mfUndo v)) i + 1 from (by simp [mFinish, c_4, c_5, mRemN, mGo, b2i])]
              exact lv_sub hl [0, 1, 2] rfl
    · refine lv_iconst (v := 0) cx.1 cx.2.1 dX1_finish_20 (by decide) ?_
      exact ke_i cx hr hlk hI (Nat.zero_le _) (Nat.zero_le _) dX1_finish_21 (congrArg (fun z => some (Value.int z)) (by simp [mFinish, (of_decide_eq_false c_1)])) (congrArg (mw ad ca) (by simp [mFinish, (of_decide_eq_false c_1)]))
  ·
    refine lv_aload_n cx.1 cx.2.1 dX1_finish_1 rfl (lv_at hl 0 rfl) ?_
    refine mg_4 cx hI dX1_finish_2 ?_
    refine lv_iconst (v := 2) cx.1 cx.2.1 dX1_finish_5 (by decide) ?_
    refine lv_icmp_ne (tgt := 13) cx.1 cx.2.1 dX1_finish_6 (by decide) (fun c_6 => ?_) (fun c_6 => ?_)
    · refine lv_iconst (v := 1) cx.1 cx.2.1 dX1_finish_13 (by decide) ?_
      exact k_top (by first | (simp [mFinish, c_6, mfUndo]; done) | (simp [mFinish, mfUndo]; exact fun h => absurd c_6 h)) (hj14 _ _ hI)
    · refine lv_iconst (v := 0) cx.1 cx.2.1 dX1_finish_9 (by decide) ?_
      refine lv_goto (tgt := 14) cx.1 cx.2.1 dX1_finish_10 (by decide) ?_
      exact k_top (by first | (simp [mFinish, c_6, mfUndo]; done) | (simp [mFinish, mfUndo]; exact fun h => absurd c_6 h)) (hj14 _ _ hI)
set_option maxHeartbeats 4000000 in
set_option maxRecDepth 100000 in
theorem kX1_giveUp (l : Launch) (D : va_G) (ca : Nat → ClassId) (ad : Nat → Nat) (v : MS) : CM l yX1_giveUp cX1_giveUp 2 (some .int) (KR 1 22) D ca (mw ad ca v) [.ref (ad 0)] (some (.int (if mfGive v = 0 then mShd (mUz v (mfGive v)) 40 else 0))) (mw ad ca (mGive v)) := by
  refine CM.of (by decide) (Nat.le_of_ble_eq_true rfl) ?_
  intro p e s m below meth c A ls cx hml hr hlk hI hl
  have hl : lv_has ls 2 [(0, .ref (ad 0))] := hl
  refine lv_aload_n cx.1 cx.2.1 dX1_giveUp_0 rfl (lv_at hl 0 rfl) ?_
  refine k_join (D := D) (A := A) 14 (mw ad ca v) [.int (mfGive v), .ref (ad 0)] (fun H locs hI => ?_) (fun hj14 => ?_)
  · refine mc_i 1 cx (hl.1.trans hml.symm) (kX1_can l D ca ad v (mfGive v)) hI wk_512 wk_509 wk_511 wq_24 ⟨rfl, by decide +kernel⟩ rfl ⟨rfl, rfl⟩ ⟨Nat.le_of_ble_eq_true rfl, Nat.le_of_ble_eq_true rfl⟩ (Nat.le_of_ble_eq_true rfl) dX1_giveUp_14 ⟨Nat.zero_le _, Nat.zero_le _⟩ rfl (fun H locs hI => ?_)
    refine kb_ne (tgt := 22) cx dX1_giveUp_17 (by decide) (fun c_1 => ?_) (fun c_1 => ?_)
    · refine lv_aload_n cx.1 cx.2.1 dX1_giveUp_22 rfl (lv_at hl 0 rfl) ?_
      refine mc_i 0 cx (hl.1.trans hml.symm) (kX1_shadowed l D ca ad (mUz v (mfGive v))) hI wk_583 wk_580 wk_582 wq_31 ⟨rfl, by decide +kernel⟩ rfl ⟨rfl, rfl⟩ ⟨Nat.le_of_ble_eq_true rfl, Nat.le_of_ble_eq_true rfl⟩ (Nat.le_of_ble_eq_true rfl) dX1_giveUp_23 ⟨Nat.zero_le _, Nat.zero_le _⟩ rfl (fun H locs hI => ?_)
      refine lv_istore_n (lv' := [(1, .int (mShd (mUz v (mfGive v)) 40)), (0, .ref (ad 0))]) cx.1 cx.2.1 dX1_giveUp_26 rfl hl (by decide) rfl (fun ls hl => ?_)
      refine lv_aload_n cx.1 cx.2.1 dX1_giveUp_27 rfl (lv_at hl 1 rfl) ?_
      refine mc_v 0 cx (hl.1.trans hml.symm) (kX1_clears l D ca ad (mUz v (mfGive v))) hI wk_551 wk_548 wk_550 wq_29 ⟨rfl, by decide +kernel⟩ rfl ⟨rfl, rfl⟩ ⟨Nat.le_of_ble_eq_true rfl, Nat.le_of_ble_eq_true rfl⟩ (Nat.le_of_ble_eq_true rfl) dX1_giveUp_28 ⟨Nat.zero_le _, Nat.zero_le _⟩ rfl (fun H locs hI => ?_)
      refine lv_aload_n cx.1 cx.2.1 dX1_giveUp_31 rfl (lv_at hl 1 rfl) ?_
      refine lv_iconst (v := 0) cx.1 cx.2.1 dX1_giveUp_32 (by decide) ?_
      refine mp_4 cx hI dX1_giveUp_33 (fun H locs hI => ?_)
      refine lv_iload_n cx.1 cx.2.1 dX1_giveUp_36 rfl (lv_at hl 0 rfl) ?_
      exact ke_i cx hr hlk hI (Nat.zero_le _) (Nat.zero_le _) dX1_giveUp_37 (congrArg (fun z => some (Value.int z)) (by simp [mGive, (of_decide_eq_true c_1)])) (congrArg (mw ad ca) (by simp [mGive, (of_decide_eq_true c_1)]))
    · refine lv_iconst (v := 0) cx.1 cx.2.1 dX1_giveUp_20 (by decide) ?_
      exact ke_i cx hr hlk hI (Nat.zero_le _) (Nat.zero_le _) dX1_giveUp_21 (congrArg (fun z => some (Value.int z)) (by simp [mGive, (of_decide_eq_false c_1)])) (congrArg (mw ad ca) (by simp [mGive, (of_decide_eq_false c_1)]))
  ·
    refine lv_aload_n cx.1 cx.2.1 dX1_giveUp_1 rfl (lv_at hl 0 rfl) ?_
    refine mg_4 cx hI dX1_giveUp_2 ?_
    refine lv_iconst (v := 1) cx.1 cx.2.1 dX1_giveUp_5 (by decide) ?_
    refine lv_icmp_ne (tgt := 13) cx.1 cx.2.1 dX1_giveUp_6 (by decide) (fun c_2 => ?_) (fun c_2 => ?_)
    · refine lv_iconst (v := 1) cx.1 cx.2.1 dX1_giveUp_13 (by decide) ?_
      exact k_top (by first | (simp [mGive, c_2, mfGive]; done) | (simp [mGive, mfGive]; exact fun h => absurd c_2 h)) (hj14 _ _ hI)
    · refine lv_iconst (v := 0) cx.1 cx.2.1 dX1_giveUp_9 (by decide) ?_
      refine lv_goto (tgt := 14) cx.1 cx.2.1 dX1_giveUp_10 (by decide) ?_
      exact k_top (by first | (simp [mGive, c_2, mfGive]; done) | (simp [mGive, mfGive]; exact fun h => absurd c_2 h)) (hj14 _ _ hI)
set_option maxHeartbeats 4000000 in
set_option maxRecDepth 100000 in
theorem kX1_row (l : Launch) (D : va_G) (ca : Nat → ClassId) (ad : Nat → Nat) (v : MS) (key : Int32) : CM l yX1_row cX1_row 2 (some .int) (KR 2 42) D ca (mw ad ca v) [.ref (ad 0), .int key] (some (.int (if mfKey key = 0 then (if mSeen v key then mO v key.toNatClampNeg else -1) else 0))) (mw ad ca (mUz v (mfKey key))) := by
  refine CM.of (by decide) (Nat.le_of_ble_eq_true rfl) ?_
  intro p e s m below meth c A ls cx hml hr hlk hI hl
  have hl : lv_has ls 2 [(0, .ref (ad 0)), (1, .int key)] := hl
  refine lv_aload_n cx.1 cx.2.1 dX1_row_0 rfl (lv_at hl 0 rfl) ?_
  refine k_join (D := D) (A := A) 13 (mw ad ca v) [.int (mfKey key), .ref (ad 0)] (fun H locs hI => ?_) (fun hj13 => ?_)
  · refine mc_i 1 cx (hl.1.trans hml.symm) (kX1_can l D ca ad v (mfKey key)) hI wk_512 wk_509 wk_511 wq_24 ⟨rfl, by decide +kernel⟩ rfl ⟨rfl, rfl⟩ ⟨Nat.le_of_ble_eq_true rfl, Nat.le_of_ble_eq_true rfl⟩ (Nat.le_of_ble_eq_true rfl) dX1_row_13 ⟨Nat.zero_le _, Nat.zero_le _⟩ rfl (fun H locs hI => ?_)
    refine kb_eq (tgt := 40) cx dX1_row_16 (by decide) (fun c_1 => ?_) (fun c_1 => ?_)
    · refine lv_iconst (v := 0) cx.1 cx.2.1 dX1_row_40 (by decide) ?_
      exact ke_i cx hr hlk hI (Nat.zero_le _) (Nat.zero_le _) dX1_row_41 (congrArg (fun z => some (Value.int z)) (by simp [(of_decide_eq_false c_1)])) rfl
    · have hk := mfKey_in c_1
      refine lv_aload_n cx.1 cx.2.1 dX1_row_19 rfl (lv_at hl 0 rfl) ?_
      refine lv_iload_n cx.1 cx.2.1 dX1_row_20 rfl (lv_at hl 1 rfl) ?_
      refine mc_i 1 cx (hl.1.trans hml.symm) (kX1_isSeen l D ca ad (mUz v (mfKey key)) key hk) hI wk_508 wk_505 wk_507 wq_23 ⟨rfl, by decide +kernel⟩ rfl ⟨rfl, rfl⟩ ⟨Nat.le_of_ble_eq_true rfl, Nat.le_of_ble_eq_true rfl⟩ (Nat.le_of_ble_eq_true rfl) dX1_row_21 ⟨Nat.zero_le _, Nat.zero_le _⟩ rfl (fun H locs hI => ?_)
      refine k_top (y := b2i (mSeen v key)) rfl ?_
      refine kb_eq (tgt := 36) cx dX1_row_24 (by decide) (fun c_2 => ?_) (fun c_2 => ?_)
      · refine lv_iconst (v := (-1)) cx.1 cx.2.1 dX1_row_36 (by decide) ?_
        refine lv_goto (tgt := 41) cx.1 cx.2.1 dX1_row_37 (by decide) ?_
        exact ke_i cx hr hlk hI (Nat.zero_le _) (Nat.zero_le _) dX1_row_41 (congrArg (fun z => some (Value.int z)) (by simp [(of_decide_eq_true c_1), c_2])) rfl
      · refine lv_aload_n cx.1 cx.2.1 dX1_row_27 rfl (lv_at hl 0 rfl) ?_
        refine mg_0 cx hI dX1_row_28 ?_
        refine lv_iload_n cx.1 cx.2.1 dX1_row_31 rfl (lv_at hl 1 rfl) ?_
        refine ma_O cx hI hk dX1_row_32 ?_
        refine k_top (y := mO v key.toNatClampNeg) rfl ?_
        refine k_top (y := mO v key.toNatClampNeg) rfl ?_
        refine lv_goto (tgt := 41) cx.1 cx.2.1 dX1_row_33 (by decide) ?_
        exact ke_i cx hr hlk hI (Nat.zero_le _) (Nat.zero_le _) dX1_row_41 (congrArg (fun z => some (Value.int z)) (by simp [(of_decide_eq_true c_1), c_2])) rfl
  ·
    refine lv_iload_n cx.1 cx.2.1 dX1_row_1 rfl (lv_at hl 1 rfl) ?_
    refine ks_i 1 cx (hl.1.trans hml.symm) (kX1_isKey l D ca key) hI wk_500 wk_498 wk_499 wk_3 ⟨by decide, by decide, by decide +kernel⟩ rfl ⟨rfl, rfl⟩ ⟨Nat.le_of_ble_eq_true rfl, Nat.le_of_ble_eq_true rfl⟩ (Nat.le_of_ble_eq_true rfl) dX1_row_2 ⟨Nat.zero_le _, Nat.zero_le _⟩ rfl (fun H locs hI => ?_)
    refine kb_eq (tgt := 12) cx dX1_row_5 (by decide) (fun c_3 => ?_) (fun c_3 => ?_)
    · refine lv_iconst (v := 1) cx.1 cx.2.1 dX1_row_12 (by decide) ?_
      exact k_top (by first | (simp [c_3, mfKey]; done) | (simp [mfKey]; exact fun h => absurd c_3 h)) (hj13 _ _ hI)
    · refine lv_iconst (v := 0) cx.1 cx.2.1 dX1_row_8 (by decide) ?_
      refine lv_goto (tgt := 13) cx.1 cx.2.1 dX1_row_9 (by decide) ?_
      exact k_top (by first | (simp [c_3, mfKey]; done) | (simp [mfKey]; exact fun h => absurd c_3 h)) (hj13 _ _ hI)
set_option maxHeartbeats 4000000 in
set_option maxRecDepth 100000 in
theorem kX1_rows (l : Launch) (D : va_G) (ca : Nat → ClassId) (ad : Nat → Nat) (v : MS) : CM l yX1_rows cX1_rows 3 (some .int) (KR 1 21) D ca (mw ad ca v) [.ref (ad 0)] (some (.int (mRows v 40))) (mw ad ca (mUz v 0)) := by
  refine CM.of (by decide) (Nat.le_of_ble_eq_true rfl) ?_
  intro p e s m below meth c A ls cx hml hr hlk hI hl
  have hl : lv_has ls 3 [(0, .ref (ad 0))] := hl
  refine lv_aload_n cx.1 cx.2.1 dX1_rows_0 rfl (lv_at hl 0 rfl) ?_
  refine lv_iconst (v := 0) cx.1 cx.2.1 dX1_rows_1 (by decide) ?_
  refine mp_12 cx hI dX1_rows_2 (fun H locs hI => ?_)
  refine lv_iconst (v := 0) cx.1 cx.2.1 dX1_rows_5 (by decide) ?_
  refine lv_istore_n (lv' := [(1, .int 0), (0, .ref (ad 0))]) cx.1 cx.2.1 dX1_rows_6 rfl hl (by decide) rfl (fun ls hl => ?_)
  refine lv_iconst (v := 0) cx.1 cx.2.1 dX1_rows_7 (by decide) ?_
  refine lv_istore_n (lv' := [(2, .int 0), (1, .int 0), (0, .ref (ad 0))]) cx.1 cx.2.1 dX1_rows_8 rfl hl (by decide) rfl (fun ls hl => ?_)
  refine k_loop 40 (fun i => (mw ad ca (mUz v 0))) (fun i => [(2, .int (nI i)), (1, .int (mRows v i)), (0, .ref (ad 0))]) hI (lv_sub hl [0, 1, 2] rfl) (fun H locs ls hI hl => ?_) (fun i hi H locs ls hI hl ih => ?_)
  · have hI : KI D A (mw ad ca (mUz v 0)) s.heap H locs := hI
    have hl : lv_has ls 3 [(2, .int (nI 40)), (1, .int (mRows v 40)), (0, .ref (ad 0))] := hl
    refine lv_iload_n cx.1 cx.2.1 dX1_rows_9 rfl (lv_at hl 0 rfl) ?_
    refine lv_bipush (v := 40) cx.1 cx.2.1 dX1_rows_10 (by decide) ?_
    refine lv_icmp_ge (tgt := 37) cx.1 cx.2.1 dX1_rows_12 (by decide) (fun _ => ?_) (fun h9 => absurd (by decide : (40 : Int32) ≤ nI 40) h9)
    refine lv_iload_n cx.1 cx.2.1 dX1_rows_37 rfl (lv_at hl 1 rfl) ?_
    exact ke_i cx hr hlk hI (Nat.zero_le _) (Nat.zero_le _) dX1_rows_38 rfl rfl
  · have hI : KI D A (mw ad ca (mUz v 0)) s.heap H locs := hI
    have hl : lv_has ls 3 [(2, .int (nI i)), (1, .int (mRows v i)), (0, .ref (ad 0))] := hl
    refine lv_iload_n cx.1 cx.2.1 dX1_rows_9 rfl (lv_at hl 0 rfl) ?_
    refine lv_bipush (v := 40) cx.1 cx.2.1 dX1_rows_10 (by decide) ?_
    refine lv_icmp_ge (tgt := 37) cx.1 cx.2.1 dX1_rows_12 (by decide) (fun h9 => absurd h9 (nI_ge hi (by decide))) (fun _ => ?_)
    refine lv_iload_n cx.1 cx.2.1 dX1_rows_15 rfl (lv_at hl 1 rfl) ?_
    refine lv_aload_n cx.1 cx.2.1 dX1_rows_16 rfl (lv_at hl 2 rfl) ?_
    refine lv_iload_n cx.1 cx.2.1 dX1_rows_17 rfl (lv_at hl 0 rfl) ?_
    refine mc_i 1 cx (hl.1.trans hml.symm) (kX1_isSeen l D ca ad (mUz v 0) (nI i) (vp_in_nI hi (by decide))) hI wk_508 wk_505 wk_507 wq_23 ⟨rfl, by decide +kernel⟩ rfl ⟨rfl, rfl⟩ ⟨Nat.le_of_ble_eq_true rfl, Nat.le_of_ble_eq_true rfl⟩ (Nat.le_of_ble_eq_true rfl) dX1_rows_18 ⟨Nat.zero_le _, Nat.zero_le _⟩ rfl (fun H locs hI => ?_)
    refine k_top (y := b2i (mSeen v (nI i))) rfl ?_
    refine k_join (D := D) (A := A) 29 (mw ad ca (mUz v 0)) [.int (b2i (mSeen v (nI i))), .int (mRows v i)] (fun H locs hI => ?_) (fun hj29 => ?_)
    · refine lv_iadd cx.1 cx.2.1 dX1_rows_29 ?_
      refine lv_istore_n (lv' := [(1, .int ((mRows v i) + (b2i (mSeen v (nI i))))), (2, .int (nI i)), (0, .ref (ad 0))]) cx.1 cx.2.1 dX1_rows_30 rfl hl (by decide) rfl (fun ls hl => ?_)
      refine lv_iinc (v := nI (i + 1)) (lv' := [(2, .int (nI (i + 1))), (1, .int ((mRows v i) + (b2i (mSeen v (nI i))))), (0, .ref (ad 0))]) cx.1 cx.2.1 dX1_rows_31 hl (k := 1) rfl (nI_1 i) (by decide) rfl (fun ls hl => ?_)
      refine lv_goto (tgt := 9) cx.1 cx.2.1 dX1_rows_34 (by decide) ?_
      refine ih _ _ _ ?_ ?_
      · show KI D A (mw ad ca (mUz v 0)) s.heap _ _
        exact hI
      · show lv_has _ _ [(2, .int (nI (i + 1))), (1, .int (mRows v (i + 1))), (0, .ref (ad 0))]
        rw [show mRows v (i + 1) = (mRows v i) + (b2i (mSeen v (nI i))) from (by simp [mRows, kSum])]
        exact lv_sub hl [0, 1, 2] rfl
    ·
      refine kb_eq (tgt := 28) cx dX1_rows_21 (by decide) (fun c_3 => ?_) (fun c_3 => ?_)
      · refine lv_iconst (v := 0) cx.1 cx.2.1 dX1_rows_28 (by decide) ?_
        exact k_top (by first | (simp [c_3, b2i]; done) | (simp [b2i]; exact fun h => absurd c_3 h)) (hj29 _ _ hI)
      · refine lv_iconst (v := 1) cx.1 cx.2.1 dX1_rows_24 (by decide) ?_
        refine lv_goto (tgt := 29) cx.1 cx.2.1 dX1_rows_25 (by decide) ?_
        exact k_top (by first | (simp [c_3, b2i]; done) | (simp [b2i]; exact fun h => absurd c_3 h)) (hj29 _ _ hI)
set_option maxHeartbeats 4000000 in
set_option maxRecDepth 100000 in
theorem kX1_phase (l : Launch) (D : va_G) (ca : Nat → ClassId) (ad : Nat → Nat) (v : MS) : CM l yX1_phase cX1_phase 1 (some .int) (KR 0 0) D ca (mw ad ca v) [.ref (ad 0)] (some (.int (mp v))) (mw ad ca (mUz v 0)) := by
  refine CM.of (by decide) (Nat.le_of_ble_eq_true rfl) ?_
  intro p e s m below meth c A ls cx hml hr hlk hI hl
  have hl : lv_has ls 1 [(0, .ref (ad 0))] := hl
  refine lv_aload_n cx.1 cx.2.1 dX1_phase_0 rfl (lv_at hl 0 rfl) ?_
  refine lv_iconst (v := 0) cx.1 cx.2.1 dX1_phase_1 (by decide) ?_
  refine mp_12 cx hI dX1_phase_2 (fun H locs hI => ?_)
  refine lv_aload_n cx.1 cx.2.1 dX1_phase_5 rfl (lv_at hl 0 rfl) ?_
  refine mg_4 cx hI dX1_phase_6 ?_
  refine k_top (y := mp v) rfl ?_
  refine k_top (y := mp v) rfl ?_
  exact ke_i cx hr hlk hI (Nat.zero_le _) (Nat.zero_le _) dX1_phase_9 rfl rfl
set_option maxHeartbeats 4000000 in
set_option maxRecDepth 100000 in
theorem kX1_mark (l : Launch) (D : va_G) (ca : Nat → ClassId) (ad : Nat → Nat) (v : MS) : CM l yX1_mark cX1_mark 1 (some .int) (KR 0 0) D ca (mw ad ca v) [.ref (ad 0)] (some (.int (if mp v = 0 then -1 else mm v))) (mw ad ca (mUz v 0)) := by
  refine CM.of (by decide) (Nat.le_of_ble_eq_true rfl) ?_
  intro p e s m below meth c A ls cx hml hr hlk hI hl
  have hl : lv_has ls 1 [(0, .ref (ad 0))] := hl
  refine lv_aload_n cx.1 cx.2.1 dX1_mark_0 rfl (lv_at hl 0 rfl) ?_
  refine lv_iconst (v := 0) cx.1 cx.2.1 dX1_mark_1 (by decide) ?_
  refine mp_12 cx hI dX1_mark_2 (fun H locs hI => ?_)
  refine lv_aload_n cx.1 cx.2.1 dX1_mark_5 rfl (lv_at hl 0 rfl) ?_
  refine mg_4 cx hI dX1_mark_6 ?_
  refine k_top (y := mp v) rfl ?_
  refine k_top (y := mp v) rfl ?_
  refine lv_if_ne (tgt := 16) cx.1 cx.2.1 dX1_mark_9 (by decide) (fun c_1 => ?_) (fun c_1 => ?_)
  · refine lv_aload_n cx.1 cx.2.1 dX1_mark_16 rfl (lv_at hl 0 rfl) ?_
    refine mg_9 cx hI dX1_mark_17 ?_
    refine k_top (y := mm v) rfl ?_
    refine k_top (y := mm v) rfl ?_
    exact ke_i cx hr hlk hI (Nat.zero_le _) (Nat.zero_le _) dX1_mark_20 (congrArg (fun z => some (Value.int z)) (by simp [c_1])) rfl
  · refine lv_iconst (v := (-1)) cx.1 cx.2.1 dX1_mark_12 (by decide) ?_
    refine lv_goto (tgt := 20) cx.1 cx.2.1 dX1_mark_13 (by decide) ?_
    exact ke_i cx hr hlk hI (Nat.zero_le _) (Nat.zero_le _) dX1_mark_20 (congrArg (fun z => some (Value.int z)) (by simp [c_1])) rfl
set_option maxHeartbeats 4000000 in
set_option maxRecDepth 100000 in
theorem kX1_notes (l : Launch) (D : va_G) (ca : Nat → ClassId) (ad : Nat → Nat) (v : MS) : CM l yX1_notes cX1_notes 1 (some .int) (KR 0 0) D ca (mw ad ca v) [.ref (ad 0)] (some (.int (mc v))) (mw ad ca (mUz v 0)) := by
  refine CM.of (by decide) (Nat.le_of_ble_eq_true rfl) ?_
  intro p e s m below meth c A ls cx hml hr hlk hI hl
  have hl : lv_has ls 1 [(0, .ref (ad 0))] := hl
  refine lv_aload_n cx.1 cx.2.1 dX1_notes_0 rfl (lv_at hl 0 rfl) ?_
  refine lv_iconst (v := 0) cx.1 cx.2.1 dX1_notes_1 (by decide) ?_
  refine mp_12 cx hI dX1_notes_2 (fun H locs hI => ?_)
  refine lv_aload_n cx.1 cx.2.1 dX1_notes_5 rfl (lv_at hl 0 rfl) ?_
  refine mg_10 cx hI dX1_notes_6 ?_
  refine k_top (y := mc v) rfl ?_
  refine k_top (y := mc v) rfl ?_
  exact ke_i cx hr hlk hI (Nat.zero_le _) (Nat.zero_le _) dX1_notes_9 rfl rfl
set_option maxHeartbeats 4000000 in
set_option maxRecDepth 100000 in
theorem kX1_shadow (l : Launch) (D : va_G) (ca : Nat → ClassId) (ad : Nat → Nat) (v : MS) (key col : Int32) : CM l yX1_shadow cX1_shadow 3 (some .int) (KR 2 42) D ca (mw ad ca v) [.ref (ad 0), .int key, .int col] (some (.int (if mfShadow key col = 0 then (if mH v key.toNatClampNeg = 0 then -1 else mS v (3 * key + col).toNatClampNeg) else 0))) (mw ad ca (mUz v (mfShadow key col))) := by
  refine CM.of (by decide) (Nat.le_of_ble_eq_true rfl) ?_
  intro p e s m below meth c A ls cx hml hr hlk hI hl
  have hl : lv_has ls 3 [(0, .ref (ad 0)), (1, .int key), (2, .int col)] := hl
  refine lv_aload_n cx.1 cx.2.1 dX1_shadow_0 rfl (lv_at hl 0 rfl) ?_
  refine k_join (D := D) (A := A) 20 (mw ad ca v) [.int (mfShadow key col), .ref (ad 0)] (fun H locs hI => ?_) (fun hj20 => ?_)
  · refine mc_i 1 cx (hl.1.trans hml.symm) (kX1_can l D ca ad v (mfShadow key col)) hI wk_512 wk_509 wk_511 wq_24 ⟨rfl, by decide +kernel⟩ rfl ⟨rfl, rfl⟩ ⟨Nat.le_of_ble_eq_true rfl, Nat.le_of_ble_eq_true rfl⟩ (Nat.le_of_ble_eq_true rfl) dX1_shadow_20 ⟨Nat.zero_le _, Nat.zero_le _⟩ rfl (fun H locs hI => ?_)
    refine kb_ne (tgt := 28) cx dX1_shadow_23 (by decide) (fun c_1 => ?_) (fun c_1 => ?_)
    · obtain ⟨hk, hc⟩ := mfShadow_in c_1
      refine lv_aload_n cx.1 cx.2.1 dX1_shadow_28 rfl (lv_at hl 0 rfl) ?_
      refine mg_2 cx hI dX1_shadow_29 ?_
      refine lv_iload_n cx.1 cx.2.1 dX1_shadow_32 rfl (lv_at hl 1 rfl) ?_
      refine ma_H cx hI hk dX1_shadow_33 ?_
      refine k_top (y := mH v key.toNatClampNeg) rfl ?_
      refine k_top (y := mH v key.toNatClampNeg) rfl ?_
      refine lv_if_eq (tgt := 50) cx.1 cx.2.1 dX1_shadow_34 (by decide) (fun c_2 => ?_) (fun c_2 => ?_)
      · refine lv_iconst (v := (-1)) cx.1 cx.2.1 dX1_shadow_50 (by decide) ?_
        exact ke_i cx hr hlk hI (Nat.zero_le _) (Nat.zero_le _) dX1_shadow_51 (congrArg (fun z => some (Value.int z)) (by simp [(of_decide_eq_true c_1), c_2])) rfl
      · refine lv_aload_n cx.1 cx.2.1 dX1_shadow_37 rfl (lv_at hl 0 rfl) ?_
        refine mg_1 cx hI dX1_shadow_38 ?_
        refine lv_iconst (v := 3) cx.1 cx.2.1 dX1_shadow_41 (by decide) ?_
        refine lv_iload_n cx.1 cx.2.1 dX1_shadow_42 rfl (lv_at hl 1 rfl) ?_
        refine lv_imul cx.1 cx.2.1 dX1_shadow_43 ?_
        refine lv_iload_n cx.1 cx.2.1 dX1_shadow_44 rfl (lv_at hl 2 rfl) ?_
        refine lv_iadd cx.1 cx.2.1 dX1_shadow_45 ?_
        refine ma_S cx hI (kidx hk hc) dX1_shadow_46 ?_
        refine k_top (y := mS v ((3 * key) + col).toNatClampNeg) rfl ?_
        refine k_top (y := mS v (3 * key + col).toNatClampNeg) rfl ?_
        refine lv_goto (tgt := 51) cx.1 cx.2.1 dX1_shadow_47 (by decide) ?_
        exact ke_i cx hr hlk hI (Nat.zero_le _) (Nat.zero_le _) dX1_shadow_51 (congrArg (fun z => some (Value.int z)) (by simp [(of_decide_eq_true c_1), c_2])) rfl
    · refine lv_iconst (v := 0) cx.1 cx.2.1 dX1_shadow_26 (by decide) ?_
      exact ke_i cx hr hlk hI (Nat.zero_le _) (Nat.zero_le _) dX1_shadow_27 (congrArg (fun z => some (Value.int z)) (by simp [(of_decide_eq_false c_1)])) rfl
  ·
    refine lv_iload_n cx.1 cx.2.1 dX1_shadow_1 rfl (lv_at hl 1 rfl) ?_
    refine ks_i 1 cx (hl.1.trans hml.symm) (kX1_isKey l D ca key) hI wk_500 wk_498 wk_499 wk_3 ⟨by decide, by decide, by decide +kernel⟩ rfl ⟨rfl, rfl⟩ ⟨Nat.le_of_ble_eq_true rfl, Nat.le_of_ble_eq_true rfl⟩ (Nat.le_of_ble_eq_true rfl) dX1_shadow_2 ⟨Nat.zero_le _, Nat.zero_le _⟩ rfl (fun H locs hI => ?_)
    refine kb_eq (tgt := 19) cx dX1_shadow_5 (by decide) (fun c_3 => ?_) (fun c_3 => ?_)
    · refine lv_iconst (v := 1) cx.1 cx.2.1 dX1_shadow_19 (by decide) ?_
      exact k_top (by first | (simp [c_3, mfShadow]; done) | (simp [mfShadow]; exact fun h => absurd c_3 h)) (hj20 _ _ hI)
    · refine lv_iload_n cx.1 cx.2.1 dX1_shadow_8 rfl (lv_at hl 2 rfl) ?_
      refine ks_i 1 cx (hl.1.trans hml.symm) (kX1_isColumn l D ca col) hI wk_610 wk_608 wk_609 wk_3 ⟨by decide, by decide, by decide +kernel⟩ rfl ⟨rfl, rfl⟩ ⟨Nat.le_of_ble_eq_true rfl, Nat.le_of_ble_eq_true rfl⟩ (Nat.le_of_ble_eq_true rfl) dX1_shadow_9 ⟨Nat.zero_le _, Nat.zero_le _⟩ rfl (fun H locs hI => ?_)
      refine kb_eq (tgt := 19) cx dX1_shadow_12 (by decide) (fun c_4 => ?_) (fun c_4 => ?_)
      · refine lv_iconst (v := 1) cx.1 cx.2.1 dX1_shadow_19 (by decide) ?_
        exact k_top (by first | (simp [c_3, c_4, mfShadow]; done) | (simp [c_3, mfShadow]; exact fun h => absurd c_4 h)) (hj20 _ _ hI)
      · refine lv_iconst (v := 0) cx.1 cx.2.1 dX1_shadow_15 (by decide) ?_
        refine lv_goto (tgt := 20) cx.1 cx.2.1 dX1_shadow_16 (by decide) ?_
        exact k_top (by first | (simp [c_3, c_4, mfShadow]; done) | (simp [c_3, mfShadow]; exact fun h => absurd c_4 h)) (hj20 _ _ hI)
set_option maxHeartbeats 4000000 in
set_option maxRecDepth 100000 in
theorem kX1_shadowRows (l : Launch) (D : va_G) (ca : Nat → ClassId) (ad : Nat → Nat) (v : MS) : CM l yX1_shadowRows cX1_shadowRows 1 (some .int) (KR 1 22) D ca (mw ad ca v) [.ref (ad 0)] (some (.int (mShd v 40))) (mw ad ca (mUz v 0)) := by
  refine CM.of (by decide) (Nat.le_of_ble_eq_true rfl) ?_
  intro p e s m below meth c A ls cx hml hr hlk hI hl
  have hl : lv_has ls 1 [(0, .ref (ad 0))] := hl
  refine lv_aload_n cx.1 cx.2.1 dX1_shadowRows_0 rfl (lv_at hl 0 rfl) ?_
  refine lv_iconst (v := 0) cx.1 cx.2.1 dX1_shadowRows_1 (by decide) ?_
  refine mp_12 cx hI dX1_shadowRows_2 (fun H locs hI => ?_)
  refine lv_aload_n cx.1 cx.2.1 dX1_shadowRows_5 rfl (lv_at hl 0 rfl) ?_
  refine mc_i 0 cx (hl.1.trans hml.symm) (kX1_shadowed l D ca ad (mUz v 0)) hI wk_583 wk_580 wk_582 wq_31 ⟨rfl, by decide +kernel⟩ rfl ⟨rfl, rfl⟩ ⟨Nat.le_of_ble_eq_true rfl, Nat.le_of_ble_eq_true rfl⟩ (Nat.le_of_ble_eq_true rfl) dX1_shadowRows_6 ⟨Nat.zero_le _, Nat.zero_le _⟩ rfl (fun H locs hI => ?_)
  refine k_top (y := mShd v 40) rfl ?_
  exact ke_i cx hr hlk hI (Nat.zero_le _) (Nat.zero_le _) dX1_shadowRows_9 rfl rfl
set_option maxHeartbeats 4000000 in
set_option maxRecDepth 100000 in
theorem kX1_isRefused (l : Launch) (D : va_G) (ca : Nat → ClassId) (ad : Nat → Nat) (v : MS) (key : Int32) : CM l yX1_isRefused cX1_isRefused 2 (some .boolean) (KR 2 42) D ca (mw ad ca v) [.ref (ad 0), .int key] (some (.int (b2i (decide (mfKey key = 0) && !decide (mF v key.toNatClampNeg = 0))))) (mw ad ca (mUz v (mfKey key))) := by
  refine CM.of (by decide) (Nat.le_of_ble_eq_true rfl) ?_
  intro p e s m below meth c A ls cx hml hr hlk hI hl
  have hl : lv_has ls 2 [(0, .ref (ad 0)), (1, .int key)] := hl
  refine lv_aload_n cx.1 cx.2.1 dX1_isRefused_0 rfl (lv_at hl 0 rfl) ?_
  refine k_join (D := D) (A := A) 13 (mw ad ca v) [.int (mfKey key), .ref (ad 0)] (fun H locs hI => ?_) (fun hj13 => ?_)
  · refine mc_i 1 cx (hl.1.trans hml.symm) (kX1_can l D ca ad v (mfKey key)) hI wk_512 wk_509 wk_511 wq_24 ⟨rfl, by decide +kernel⟩ rfl ⟨rfl, rfl⟩ ⟨Nat.le_of_ble_eq_true rfl, Nat.le_of_ble_eq_true rfl⟩ (Nat.le_of_ble_eq_true rfl) dX1_isRefused_13 ⟨Nat.zero_le _, Nat.zero_le _⟩ rfl (fun H locs hI => ?_)
    refine kb_eq (tgt := 32) cx dX1_isRefused_16 (by decide) (fun c_1 => ?_) (fun c_1 => ?_)
    · refine lv_iconst (v := 0) cx.1 cx.2.1 dX1_isRefused_32 (by decide) ?_
      exact ke_z cx hr hlk hI (Nat.zero_le _) (Nat.zero_le _) dX1_isRefused_33 rfl (congrArg (fun z => some (Value.int z)) (by simp [b2i, (of_decide_eq_false c_1)])) rfl
    · have hk := mfKey_in c_1
      refine lv_aload_n cx.1 cx.2.1 dX1_isRefused_19 rfl (lv_at hl 0 rfl) ?_
      refine mg_3 cx hI dX1_isRefused_20 ?_
      refine lv_iload_n cx.1 cx.2.1 dX1_isRefused_23 rfl (lv_at hl 1 rfl) ?_
      refine ma_F cx hI hk dX1_isRefused_24 ?_
      refine k_top (y := mF v key.toNatClampNeg) rfl ?_
      refine k_top (y := mF v key.toNatClampNeg) rfl ?_
      refine lv_if_eq (tgt := 32) cx.1 cx.2.1 dX1_isRefused_25 (by decide) (fun c_2 => ?_) (fun c_2 => ?_)
      · refine lv_iconst (v := 0) cx.1 cx.2.1 dX1_isRefused_32 (by decide) ?_
        exact ke_z cx hr hlk hI (Nat.zero_le _) (Nat.zero_le _) dX1_isRefused_33 rfl (congrArg (fun z => some (Value.int z)) (by simp [b2i, (of_decide_eq_true c_1), c_2])) rfl
      · refine lv_iconst (v := 1) cx.1 cx.2.1 dX1_isRefused_28 (by decide) ?_
        refine lv_goto (tgt := 33) cx.1 cx.2.1 dX1_isRefused_29 (by decide) ?_
        exact ke_z cx hr hlk hI (Nat.zero_le _) (Nat.zero_le _) dX1_isRefused_33 rfl (congrArg (fun z => some (Value.int z)) (by simp [b2i, (of_decide_eq_true c_1), c_2])) rfl
  ·
    refine lv_iload_n cx.1 cx.2.1 dX1_isRefused_1 rfl (lv_at hl 1 rfl) ?_
    refine ks_i 1 cx (hl.1.trans hml.symm) (kX1_isKey l D ca key) hI wk_500 wk_498 wk_499 wk_3 ⟨by decide, by decide, by decide +kernel⟩ rfl ⟨rfl, rfl⟩ ⟨Nat.le_of_ble_eq_true rfl, Nat.le_of_ble_eq_true rfl⟩ (Nat.le_of_ble_eq_true rfl) dX1_isRefused_2 ⟨Nat.zero_le _, Nat.zero_le _⟩ rfl (fun H locs hI => ?_)
    refine kb_eq (tgt := 12) cx dX1_isRefused_5 (by decide) (fun c_3 => ?_) (fun c_3 => ?_)
    · refine lv_iconst (v := 1) cx.1 cx.2.1 dX1_isRefused_12 (by decide) ?_
      exact k_top (by first | (simp [b2i, c_3, mfKey]; done) | (simp [b2i, mfKey]; exact fun h => absurd c_3 h)) (hj13 _ _ hI)
    · refine lv_iconst (v := 0) cx.1 cx.2.1 dX1_isRefused_8 (by decide) ?_
      refine lv_goto (tgt := 13) cx.1 cx.2.1 dX1_isRefused_9 (by decide) ?_
      exact k_top (by first | (simp [b2i, c_3, mfKey]; done) | (simp [b2i, mfKey]; exact fun h => absurd c_3 h)) (hj13 _ _ hI)
set_option maxHeartbeats 4000000 in
set_option maxRecDepth 100000 in
theorem kX1_isEven (l : Launch) (D : va_G) (ca : Nat → ClassId) (ad : Nat → Nat) (v : MS) (key : Int32) (hk : vp_in key 40) : CM l yX1_isEven cX1_isEven 5 (some .boolean) (KR 2 44) D ca (mw ad ca v) [.ref (ad 0), .int key] (some (.int (b2i (mEven v key)))) (mw ad ca v) := by
  refine CM.of (by decide) (Nat.le_of_ble_eq_true rfl) ?_
  intro p e s m below meth c A ls cx hml hr hlk hI hl
  have hl : lv_has ls 5 [(0, .ref (ad 0)), (1, .int key)] := hl
  refine k_join (D := D) (A := A) 28 (mw ad ca v) [.int (b2i (mDue v key))] (fun H locs hI => ?_) (fun hj28 => ?_)
  · refine lv_istore_n (lv' := [(2, .int (b2i (mDue v key))), (0, .ref (ad 0)), (1, .int key)]) cx.1 cx.2.1 dX1_isEven_28 rfl hl (by decide) rfl (fun ls hl => ?_)
    refine k_join (D := D) (A := A) 44 (mw ad ca v) [.int (b2i (mE0 v key))] (fun H locs hI => ?_) (fun hj44 => ?_)
    · refine lv_istore_n (lv' := [(3, .int (b2i (mE0 v key))), (2, .int (b2i (mDue v key))), (0, .ref (ad 0)), (1, .int key)]) cx.1 cx.2.1 dX1_isEven_44 rfl hl (by decide) rfl (fun ls hl => ?_)
      refine lv_iconst (v := 0) cx.1 cx.2.1 dX1_isEven_45 (by decide) ?_
      refine lv_istore (lv' := [(4, .int 0), (3, .int (b2i (mE0 v key))), (2, .int (b2i (mDue v key))), (0, .ref (ad 0)), (1, .int key)]) cx.1 cx.2.1 dX1_isEven_46 hl (by decide) rfl (fun ls hl => ?_)
      refine lv_iload cx.1 cx.2.1 dX1_isEven_48 (lv_at hl 0 rfl) ?_
      refine lv_iconst (v := 3) cx.1 cx.2.1 dX1_isEven_50 (by decide) ?_
      refine lv_icmp_ge (tgt := 100) cx.1 cx.2.1 dX1_isEven_51 (by decide) (fun h9 => absurd h9 (by decide)) (fun _ => ?_)
      refine lv_iload_n cx.1 cx.2.1 dX1_isEven_54 rfl (lv_at hl 2 rfl) ?_
      refine kb_eq (tgt := 100) cx dX1_isEven_55 (by decide) (fun c_2 => ?_) (fun c_2 => ?_)
      · refine lv_iload_n cx.1 cx.2.1 dX1_isEven_100 rfl (lv_at hl 1 rfl) ?_
        exact ke_z cx hr hlk hI (Nat.zero_le _) (Nat.zero_le _) dX1_isEven_101 (b2i_nar _) (congrArg (fun z => some (Value.int z)) (by simp [mEven, b2i, c_2])) rfl
      · have c_D := c_2
        refine k_join (D := D) (A := A) 93 (mw ad ca v) [.int (b2i (mI1 v key))] (fun H locs hI => ?_) (fun hj93 => ?_)
        · refine lv_istore_n (lv' := [(3, .int (b2i (mI1 v key))), (4, .int 0), (2, .int (b2i (mDue v key))), (0, .ref (ad 0)), (1, .int key)]) cx.1 cx.2.1 dX1_isEven_93 rfl hl (by decide) rfl (fun ls hl => ?_)
          refine lv_iinc (v := 1) (lv' := [(4, .int 1), (3, .int (b2i (mI1 v key))), (2, .int (b2i (mDue v key))), (0, .ref (ad 0)), (1, .int key)]) cx.1 cx.2.1 dX1_isEven_94 hl (k := 1) rfl (by decide) (by decide) rfl (fun ls hl => ?_)
          refine lv_goto (tgt := 48) cx.1 cx.2.1 dX1_isEven_97 (by decide) ?_
          refine lv_iload cx.1 cx.2.1 dX1_isEven_48 (lv_at hl 0 rfl) ?_
          refine lv_iconst (v := 3) cx.1 cx.2.1 dX1_isEven_50 (by decide) ?_
          refine lv_icmp_ge (tgt := 100) cx.1 cx.2.1 dX1_isEven_51 (by decide) (fun h9 => absurd h9 (by decide)) (fun _ => ?_)
          refine lv_iload_n cx.1 cx.2.1 dX1_isEven_54 rfl (lv_at hl 2 rfl) ?_
          refine kb_eq (tgt := 100) cx dX1_isEven_55 (by decide) (fun h9 => absurd h9 (by rw [c_D]; decide)) (fun _ => ?_)
          refine k_join (D := D) (A := A) 93 (mw ad ca v) [.int (b2i (mI2 v key))] (fun H locs hI => ?_) (fun hj93 => ?_)
          · refine lv_istore_n (lv' := [(3, .int (b2i (mI2 v key))), (4, .int 1), (2, .int (b2i (mDue v key))), (0, .ref (ad 0)), (1, .int key)]) cx.1 cx.2.1 dX1_isEven_93 rfl hl (by decide) rfl (fun ls hl => ?_)
            refine lv_iinc (v := 2) (lv' := [(4, .int 2), (3, .int (b2i (mI2 v key))), (2, .int (b2i (mDue v key))), (0, .ref (ad 0)), (1, .int key)]) cx.1 cx.2.1 dX1_isEven_94 hl (k := 1) rfl (by decide) (by decide) rfl (fun ls hl => ?_)
            refine lv_goto (tgt := 48) cx.1 cx.2.1 dX1_isEven_97 (by decide) ?_
            refine lv_iload cx.1 cx.2.1 dX1_isEven_48 (lv_at hl 0 rfl) ?_
            refine lv_iconst (v := 3) cx.1 cx.2.1 dX1_isEven_50 (by decide) ?_
            refine lv_icmp_ge (tgt := 100) cx.1 cx.2.1 dX1_isEven_51 (by decide) (fun h9 => absurd h9 (by decide)) (fun _ => ?_)
            refine lv_iload_n cx.1 cx.2.1 dX1_isEven_54 rfl (lv_at hl 2 rfl) ?_
            refine kb_eq (tgt := 100) cx dX1_isEven_55 (by decide) (fun h9 => absurd h9 (by rw [c_D]; decide)) (fun _ => ?_)
            refine k_join (D := D) (A := A) 93 (mw ad ca v) [.int (b2i (mI3 v key))] (fun H locs hI => ?_) (fun hj93 => ?_)
            · refine lv_istore_n (lv' := [(3, .int (b2i (mI3 v key))), (4, .int 2), (2, .int (b2i (mDue v key))), (0, .ref (ad 0)), (1, .int key)]) cx.1 cx.2.1 dX1_isEven_93 rfl hl (by decide) rfl (fun ls hl => ?_)
              refine lv_iinc (v := 3) (lv' := [(4, .int 3), (3, .int (b2i (mI3 v key))), (2, .int (b2i (mDue v key))), (0, .ref (ad 0)), (1, .int key)]) cx.1 cx.2.1 dX1_isEven_94 hl (k := 1) rfl (by decide) (by decide) rfl (fun ls hl => ?_)
              refine lv_goto (tgt := 48) cx.1 cx.2.1 dX1_isEven_97 (by decide) ?_
              refine lv_iload cx.1 cx.2.1 dX1_isEven_48 (lv_at hl 0 rfl) ?_
              refine lv_iconst (v := 3) cx.1 cx.2.1 dX1_isEven_50 (by decide) ?_
              refine lv_icmp_ge (tgt := 100) cx.1 cx.2.1 dX1_isEven_51 (by decide) (fun _ => ?_) (fun h9 => absurd (by decide : (3 : Int32) ≤ 3) h9)
              refine lv_iload_n cx.1 cx.2.1 dX1_isEven_100 rfl (lv_at hl 1 rfl) ?_
              exact ke_z cx hr hlk hI (Nat.zero_le _) (Nat.zero_le _) dX1_isEven_101 (b2i_nar _) (congrArg (fun z => some (Value.int z)) (by simp [mEven, b2i, c_2])) rfl
            ·
              refine lv_iload_n cx.1 cx.2.1 dX1_isEven_58 rfl (lv_at hl 1 rfl) ?_
              refine kb_eq (tgt := 92) cx dX1_isEven_59 (by decide) (fun c_8 => ?_) (fun c_8 => ?_)
              · refine lv_iconst (v := 0) cx.1 cx.2.1 dX1_isEven_92 (by decide) ?_
                exact k_top (by first | (simp [mEven, b2i, c_2, c_8, mI3, kBoth, b2i]; done) | (simp [mEven, b2i, c_2, mI3, kBoth, b2i]; exact fun h => absurd c_8 h)) (hj93 _ _ hI)
              · refine lv_aload_n cx.1 cx.2.1 dX1_isEven_62 rfl (lv_at hl 3 rfl) ?_
                refine mg_1 cx hI dX1_isEven_63 ?_
                refine lv_iconst (v := 3) cx.1 cx.2.1 dX1_isEven_66 (by decide) ?_
                refine lv_iload_n cx.1 cx.2.1 dX1_isEven_67 rfl (lv_at hl 4 rfl) ?_
                refine lv_imul cx.1 cx.2.1 dX1_isEven_68 ?_
                refine lv_iload cx.1 cx.2.1 dX1_isEven_69 (lv_at hl 0 rfl) ?_
                refine lv_iadd cx.1 cx.2.1 dX1_isEven_71 ?_
                refine ma_S cx hI (kidx hk (vp2 (by decide) (by decide))) dX1_isEven_72 ?_
                refine lv_aload_n cx.1 cx.2.1 dX1_isEven_73 rfl (lv_at hl 3 rfl) ?_
                refine lv_aload_n cx.1 cx.2.1 dX1_isEven_74 rfl (lv_at hl 3 rfl) ?_
                refine mg_0 cx hI dX1_isEven_75 ?_
                refine lv_iload_n cx.1 cx.2.1 dX1_isEven_78 rfl (lv_at hl 4 rfl) ?_
                refine ma_O cx hI hk dX1_isEven_79 ?_
                refine lv_iload cx.1 cx.2.1 dX1_isEven_80 (lv_at hl 0 rfl) ?_
                refine mc_i 2 cx (hl.1.trans hml.symm) (kX1_altered l D ca ad v (mO v key.toNatClampNeg) 2) hI wk_528 wk_525 wk_527 wq_28 ⟨rfl, by decide +kernel⟩ rfl ⟨rfl, rfl⟩ ⟨Nat.le_of_ble_eq_true rfl, Nat.le_of_ble_eq_true rfl⟩ (Nat.le_of_ble_eq_true rfl) dX1_isEven_82 ⟨Nat.zero_le _, Nat.zero_le _⟩ rfl (fun H locs hI => ?_)
                refine lv_icmp_ne (tgt := 92) cx.1 cx.2.1 dX1_isEven_85 (by decide) (fun c_9 => ?_) (fun c_9 => ?_)
                · refine lv_iconst (v := 0) cx.1 cx.2.1 dX1_isEven_92 (by decide) ?_
                  exact k_top (by first | (simp [mEven, b2i, c_2, c_8, (mEc_f c_9), mI3, kBoth, b2i]; done) | (simp [mEven, b2i, c_2, c_8, mI3, kBoth, b2i]; exact fun h => absurd (mEc_f c_9) h)) (hj93 _ _ hI)
                · refine lv_iconst (v := 1) cx.1 cx.2.1 dX1_isEven_88 (by decide) ?_
                  refine lv_goto (tgt := 93) cx.1 cx.2.1 dX1_isEven_89 (by decide) ?_
                  exact k_top (by first | (simp [mEven, b2i, c_2, c_8, (mEc_t c_9), mI3, kBoth, b2i]; done) | (simp [mEven, b2i, c_2, c_8, mI3, kBoth, b2i]; exact fun h => absurd (mEc_t c_9) h)) (hj93 _ _ hI)
          ·
            refine lv_iload_n cx.1 cx.2.1 dX1_isEven_58 rfl (lv_at hl 1 rfl) ?_
            refine kb_eq (tgt := 92) cx dX1_isEven_59 (by decide) (fun c_10 => ?_) (fun c_10 => ?_)
            · refine lv_iconst (v := 0) cx.1 cx.2.1 dX1_isEven_92 (by decide) ?_
              exact k_top (by first | (simp [mEven, b2i, c_2, c_10, mI2, kBoth, b2i]; done) | (simp [mEven, b2i, c_2, mI2, kBoth, b2i]; exact fun h => absurd c_10 h)) (hj93 _ _ hI)
            · refine lv_aload_n cx.1 cx.2.1 dX1_isEven_62 rfl (lv_at hl 3 rfl) ?_
              refine mg_1 cx hI dX1_isEven_63 ?_
              refine lv_iconst (v := 3) cx.1 cx.2.1 dX1_isEven_66 (by decide) ?_
              refine lv_iload_n cx.1 cx.2.1 dX1_isEven_67 rfl (lv_at hl 4 rfl) ?_
              refine lv_imul cx.1 cx.2.1 dX1_isEven_68 ?_
              refine lv_iload cx.1 cx.2.1 dX1_isEven_69 (lv_at hl 0 rfl) ?_
              refine lv_iadd cx.1 cx.2.1 dX1_isEven_71 ?_
              refine ma_S cx hI (kidx hk (vp1 (by decide) (by decide))) dX1_isEven_72 ?_
              refine lv_aload_n cx.1 cx.2.1 dX1_isEven_73 rfl (lv_at hl 3 rfl) ?_
              refine lv_aload_n cx.1 cx.2.1 dX1_isEven_74 rfl (lv_at hl 3 rfl) ?_
              refine mg_0 cx hI dX1_isEven_75 ?_
              refine lv_iload_n cx.1 cx.2.1 dX1_isEven_78 rfl (lv_at hl 4 rfl) ?_
              refine ma_O cx hI hk dX1_isEven_79 ?_
              refine lv_iload cx.1 cx.2.1 dX1_isEven_80 (lv_at hl 0 rfl) ?_
              refine mc_i 2 cx (hl.1.trans hml.symm) (kX1_altered l D ca ad v (mO v key.toNatClampNeg) 1) hI wk_528 wk_525 wk_527 wq_28 ⟨rfl, by decide +kernel⟩ rfl ⟨rfl, rfl⟩ ⟨Nat.le_of_ble_eq_true rfl, Nat.le_of_ble_eq_true rfl⟩ (Nat.le_of_ble_eq_true rfl) dX1_isEven_82 ⟨Nat.zero_le _, Nat.zero_le _⟩ rfl (fun H locs hI => ?_)
              refine lv_icmp_ne (tgt := 92) cx.1 cx.2.1 dX1_isEven_85 (by decide) (fun c_11 => ?_) (fun c_11 => ?_)
              · refine lv_iconst (v := 0) cx.1 cx.2.1 dX1_isEven_92 (by decide) ?_
                exact k_top (by first | (simp [mEven, b2i, c_2, c_10, (mEc_f c_11), mI2, kBoth, b2i]; done) | (simp [mEven, b2i, c_2, c_10, mI2, kBoth, b2i]; exact fun h => absurd (mEc_f c_11) h)) (hj93 _ _ hI)
              · refine lv_iconst (v := 1) cx.1 cx.2.1 dX1_isEven_88 (by decide) ?_
                refine lv_goto (tgt := 93) cx.1 cx.2.1 dX1_isEven_89 (by decide) ?_
                exact k_top (by first | (simp [mEven, b2i, c_2, c_10, (mEc_t c_11), mI2, kBoth, b2i]; done) | (simp [mEven, b2i, c_2, c_10, mI2, kBoth, b2i]; exact fun h => absurd (mEc_t c_11) h)) (hj93 _ _ hI)
        ·
          refine lv_iload_n cx.1 cx.2.1 dX1_isEven_58 rfl (lv_at hl 1 rfl) ?_
          refine kb_eq (tgt := 92) cx dX1_isEven_59 (by decide) (fun c_12 => ?_) (fun c_12 => ?_)
          · refine lv_iconst (v := 0) cx.1 cx.2.1 dX1_isEven_92 (by decide) ?_
            exact k_top (by first | (simp [mEven, b2i, c_2, c_12, mI1, kBoth, b2i]; done) | (simp [mEven, b2i, c_2, mI1, kBoth, b2i]; exact fun h => absurd c_12 h)) (hj93 _ _ hI)
          · refine lv_aload_n cx.1 cx.2.1 dX1_isEven_62 rfl (lv_at hl 3 rfl) ?_
            refine mg_1 cx hI dX1_isEven_63 ?_
            refine lv_iconst (v := 3) cx.1 cx.2.1 dX1_isEven_66 (by decide) ?_
            refine lv_iload_n cx.1 cx.2.1 dX1_isEven_67 rfl (lv_at hl 4 rfl) ?_
            refine lv_imul cx.1 cx.2.1 dX1_isEven_68 ?_
            refine lv_iload cx.1 cx.2.1 dX1_isEven_69 (lv_at hl 0 rfl) ?_
            refine lv_iadd cx.1 cx.2.1 dX1_isEven_71 ?_
            refine ma_S cx hI (kidx hk (vp0 (by decide) (by decide))) dX1_isEven_72 ?_
            refine lv_aload_n cx.1 cx.2.1 dX1_isEven_73 rfl (lv_at hl 3 rfl) ?_
            refine lv_aload_n cx.1 cx.2.1 dX1_isEven_74 rfl (lv_at hl 3 rfl) ?_
            refine mg_0 cx hI dX1_isEven_75 ?_
            refine lv_iload_n cx.1 cx.2.1 dX1_isEven_78 rfl (lv_at hl 4 rfl) ?_
            refine ma_O cx hI hk dX1_isEven_79 ?_
            refine lv_iload cx.1 cx.2.1 dX1_isEven_80 (lv_at hl 0 rfl) ?_
            refine mc_i 2 cx (hl.1.trans hml.symm) (kX1_altered l D ca ad v (mO v key.toNatClampNeg) 0) hI wk_528 wk_525 wk_527 wq_28 ⟨rfl, by decide +kernel⟩ rfl ⟨rfl, rfl⟩ ⟨Nat.le_of_ble_eq_true rfl, Nat.le_of_ble_eq_true rfl⟩ (Nat.le_of_ble_eq_true rfl) dX1_isEven_82 ⟨Nat.zero_le _, Nat.zero_le _⟩ rfl (fun H locs hI => ?_)
            refine lv_icmp_ne (tgt := 92) cx.1 cx.2.1 dX1_isEven_85 (by decide) (fun c_13 => ?_) (fun c_13 => ?_)
            · refine lv_iconst (v := 0) cx.1 cx.2.1 dX1_isEven_92 (by decide) ?_
              exact k_top (by first | (simp [mEven, b2i, c_2, c_12, (mEc_f c_13), mI1, kBoth, b2i]; done) | (simp [mEven, b2i, c_2, c_12, mI1, kBoth, b2i]; exact fun h => absurd (mEc_f c_13) h)) (hj93 _ _ hI)
            · refine lv_iconst (v := 1) cx.1 cx.2.1 dX1_isEven_88 (by decide) ?_
              refine lv_goto (tgt := 93) cx.1 cx.2.1 dX1_isEven_89 (by decide) ?_
              exact k_top (by first | (simp [mEven, b2i, c_2, c_12, (mEc_t c_13), mI1, kBoth, b2i]; done) | (simp [mEven, b2i, c_2, c_12, mI1, kBoth, b2i]; exact fun h => absurd (mEc_t c_13) h)) (hj93 _ _ hI)
    ·
      refine lv_iload_n cx.1 cx.2.1 dX1_isEven_29 rfl (lv_at hl 0 rfl) ?_
      refine lv_aload_n cx.1 cx.2.1 dX1_isEven_30 rfl (lv_at hl 1 rfl) ?_
      refine mg_2 cx hI dX1_isEven_31 ?_
      refine lv_iload_n cx.1 cx.2.1 dX1_isEven_34 rfl (lv_at hl 2 rfl) ?_
      refine ma_H cx hI hk dX1_isEven_35 ?_
      refine lv_icmp_ne (tgt := 43) cx.1 cx.2.1 dX1_isEven_36 (by decide) (fun c_14 => ?_) (fun c_14 => ?_)
      · refine lv_iconst (v := 0) cx.1 cx.2.1 dX1_isEven_43 (by decide) ?_
        exact k_top (by first | (simp [mEven, b2i, (mE0_f c_14), b2i]; done) | (simp [mEven, b2i, b2i]; exact fun h => absurd (mE0_f c_14) h)) (hj44 _ _ hI)
      · refine lv_iconst (v := 1) cx.1 cx.2.1 dX1_isEven_39 (by decide) ?_
        refine lv_goto (tgt := 44) cx.1 cx.2.1 dX1_isEven_40 (by decide) ?_
        exact k_top (by first | (simp [mEven, b2i, (mE0_t c_14), b2i]; done) | (simp [mEven, b2i, b2i]; exact fun h => absurd (mE0_t c_14) h)) (hj44 _ _ hI)
  ·
    refine lv_aload_n cx.1 cx.2.1 dX1_isEven_0 rfl (lv_at hl 0 rfl) ?_
    refine mg_0 cx hI dX1_isEven_1 ?_
    refine lv_iload_n cx.1 cx.2.1 dX1_isEven_4 rfl (lv_at hl 1 rfl) ?_
    refine ma_O cx hI hk dX1_isEven_5 ?_
    refine lv_iconst (v := (-1)) cx.1 cx.2.1 dX1_isEven_6 (by decide) ?_
    refine lv_icmp_eq (tgt := 27) cx.1 cx.2.1 dX1_isEven_7 (by decide) (fun c_15 => ?_) (fun c_15 => ?_)
    · refine lv_iconst (v := 0) cx.1 cx.2.1 dX1_isEven_27 (by decide) ?_
      exact k_top (by first | (simp [mEven, b2i, c_15, mDue, b2i]; done) | (simp [mEven, b2i, mDue, b2i]; exact fun h => absurd c_15 h)) (hj28 _ _ hI)
    · refine lv_aload_n cx.1 cx.2.1 dX1_isEven_10 rfl (lv_at hl 0 rfl) ?_
      refine lv_aload_n cx.1 cx.2.1 dX1_isEven_11 rfl (lv_at hl 0 rfl) ?_
      refine mg_0 cx hI dX1_isEven_12 ?_
      refine lv_iload_n cx.1 cx.2.1 dX1_isEven_15 rfl (lv_at hl 1 rfl) ?_
      refine ma_O cx hI hk dX1_isEven_16 ?_
      refine mc_i 1 cx (hl.1.trans hml.symm) (kX1_suits l D ca ad v (mO v key.toNatClampNeg)) hI wk_504 wk_501 wk_503 wq_22 ⟨rfl, by decide +kernel⟩ rfl ⟨rfl, rfl⟩ ⟨Nat.le_of_ble_eq_true rfl, Nat.le_of_ble_eq_true rfl⟩ (Nat.le_of_ble_eq_true rfl) dX1_isEven_17 ⟨Nat.zero_le _, Nat.zero_le _⟩ rfl (fun H locs hI => ?_)
      refine kb_eq (tgt := 27) cx dX1_isEven_20 (by decide) (fun c_16 => ?_) (fun c_16 => ?_)
      · refine lv_iconst (v := 0) cx.1 cx.2.1 dX1_isEven_27 (by decide) ?_
        exact k_top (by first | (simp [mEven, b2i, c_15, c_16, mDue, b2i]; done) | (simp [mEven, b2i, c_15, mDue, b2i]; exact fun h => absurd c_16 h)) (hj28 _ _ hI)
      · refine lv_iconst (v := 1) cx.1 cx.2.1 dX1_isEven_23 (by decide) ?_
        refine lv_goto (tgt := 28) cx.1 cx.2.1 dX1_isEven_24 (by decide) ?_
        exact k_top (by first | (simp [mEven, b2i, c_15, c_16, mDue, b2i]; done) | (simp [mEven, b2i, c_15, mDue, b2i]; exact fun h => absurd c_16 h)) (hj28 _ _ hI)
end
section
set_option maxHeartbeats 4000000 in
set_option maxRecDepth 100000 in
theorem kX1_behind (l : Launch) (D : va_G) (ca : Nat → ClassId) (ad : Nat → Nat) (v : MS) : CM l yX1_behind cX1_behind 3 (some .int) (KR 3 68) D ca (mw ad ca v) [.ref (ad 0)] (some (.int (if mp v = 0 then 0 else mBehinds v 40))) (mw ad ca (mUz v 0)) := by
  refine CM.of (by decide) (Nat.le_of_ble_eq_true rfl) ?_
  intro p e s m below meth c A ls cx hml hr hlk hI hl
  have hl : lv_has ls 3 [(0, .ref (ad 0))] := hl
  refine lv_aload_n cx.1 cx.2.1 dX1_behind_0 rfl (lv_at hl 0 rfl) ?_
  refine lv_iconst (v := 0) cx.1 cx.2.1 dX1_behind_1 (by decide) ?_
  refine mp_12 cx hI dX1_behind_2 (fun H locs hI => ?_)
  rcases Decidable.em (mp v = 0) with hp | hp
  · refine lv_iconst (v := 0) cx.1 cx.2.1 dX1_behind_5 (by decide) ?_
    refine lv_istore_n (lv' := [(1, .int 0), (0, .ref (ad 0))]) cx.1 cx.2.1 dX1_behind_6 rfl hl (by decide) rfl (fun ls hl => ?_)
    refine lv_iconst (v := 0) cx.1 cx.2.1 dX1_behind_7 (by decide) ?_
    refine lv_istore_n (lv' := [(2, .int 0), (1, .int 0), (0, .ref (ad 0))]) cx.1 cx.2.1 dX1_behind_8 rfl hl (by decide) rfl (fun ls hl => ?_)
    refine lv_iload_n cx.1 cx.2.1 dX1_behind_9 rfl (lv_at hl 0 rfl) ?_
    refine lv_bipush (v := 40) cx.1 cx.2.1 dX1_behind_10 (by decide) ?_
    refine lv_icmp_ge (tgt := 44) cx.1 cx.2.1 dX1_behind_12 (by decide) (fun h9 => absurd h9 (by decide)) (fun _ => ?_)
    refine lv_aload_n cx.1 cx.2.1 dX1_behind_15 rfl (lv_at hl 2 rfl) ?_
    refine mg_4 cx hI dX1_behind_16 ?_
    refine k_top (y := mp v) rfl ?_
    refine lv_if_eq (tgt := 44) cx.1 cx.2.1 dX1_behind_19 (by decide) (fun _ => ?_) (fun h9 => absurd hp h9)
    refine lv_iload_n cx.1 cx.2.1 dX1_behind_44 rfl (lv_at hl 1 rfl) ?_
    exact ke_i cx hr hlk hI (Nat.zero_le _) (Nat.zero_le _) dX1_behind_45 (congrArg (fun z => some (Value.int z)) (by simp [hp])) rfl
  · refine lv_iconst (v := 0) cx.1 cx.2.1 dX1_behind_5 (by decide) ?_
    refine lv_istore_n (lv' := [(1, .int 0), (0, .ref (ad 0))]) cx.1 cx.2.1 dX1_behind_6 rfl hl (by decide) rfl (fun ls hl => ?_)
    refine lv_iconst (v := 0) cx.1 cx.2.1 dX1_behind_7 (by decide) ?_
    refine lv_istore_n (lv' := [(2, .int 0), (1, .int 0), (0, .ref (ad 0))]) cx.1 cx.2.1 dX1_behind_8 rfl hl (by decide) rfl (fun ls hl => ?_)
    refine k_loop 40 (fun i => (mw ad ca (mUz v 0))) (fun i => [(2, .int (nI i)), (1, .int (mBehinds v i)), (0, .ref (ad 0))]) hI (lv_sub hl [0, 1, 2] rfl) (fun H locs ls hI hl => ?_) (fun i hi H locs ls hI hl ih => ?_)
    · have hI : KI D A (mw ad ca (mUz v 0)) s.heap H locs := hI
      have hl : lv_has ls 3 [(2, .int (nI 40)), (1, .int (mBehinds v 40)), (0, .ref (ad 0))] := hl
      refine lv_iload_n cx.1 cx.2.1 dX1_behind_9 rfl (lv_at hl 0 rfl) ?_
      refine lv_bipush (v := 40) cx.1 cx.2.1 dX1_behind_10 (by decide) ?_
      refine lv_icmp_ge (tgt := 44) cx.1 cx.2.1 dX1_behind_12 (by decide) (fun _ => ?_) (fun h9 => absurd (by decide : (40 : Int32) ≤ nI 40) h9)
      refine lv_iload_n cx.1 cx.2.1 dX1_behind_44 rfl (lv_at hl 1 rfl) ?_
      exact ke_i cx hr hlk hI (Nat.zero_le _) (Nat.zero_le _) dX1_behind_45 (congrArg (fun z => some (Value.int z)) (by simp [hp])) rfl
    · have hI : KI D A (mw ad ca (mUz v 0)) s.heap H locs := hI
      have hl : lv_has ls 3 [(2, .int (nI i)), (1, .int (mBehinds v i)), (0, .ref (ad 0))] := hl
      refine lv_iload_n cx.1 cx.2.1 dX1_behind_9 rfl (lv_at hl 0 rfl) ?_
      refine lv_bipush (v := 40) cx.1 cx.2.1 dX1_behind_10 (by decide) ?_
      refine lv_icmp_ge (tgt := 44) cx.1 cx.2.1 dX1_behind_12 (by decide) (fun h9 => absurd h9 (nI_ge hi (by decide))) (fun _ => ?_)
      refine lv_aload_n cx.1 cx.2.1 dX1_behind_15 rfl (lv_at hl 2 rfl) ?_
      refine mg_4 cx hI dX1_behind_16 ?_
      refine k_top (y := mp v) rfl ?_
      refine lv_if_eq (tgt := 44) cx.1 cx.2.1 dX1_behind_19 (by decide) (fun h9 => absurd h9 hp) (fun _ => ?_)
      refine lv_iload_n cx.1 cx.2.1 dX1_behind_22 rfl (lv_at hl 1 rfl) ?_
      refine lv_aload_n cx.1 cx.2.1 dX1_behind_23 rfl (lv_at hl 2 rfl) ?_
      refine lv_iload_n cx.1 cx.2.1 dX1_behind_24 rfl (lv_at hl 0 rfl) ?_
      refine mc_i 1 cx (hl.1.trans hml.symm) (kX1_isEven l D ca ad (mUz v 0) (nI i) (vp_in_nI hi (by decide))) hI wk_626 wk_623 wk_625 wq_32 ⟨rfl, by decide +kernel⟩ rfl ⟨rfl, rfl⟩ ⟨Nat.le_of_ble_eq_true rfl, Nat.le_of_ble_eq_true rfl⟩ (Nat.le_of_ble_eq_true rfl) dX1_behind_25 ⟨Nat.zero_le _, Nat.zero_le _⟩ rfl (fun H locs hI => ?_)
      refine k_top (y := b2i (mEven v (nI i))) rfl ?_
      refine k_join (D := D) (A := A) 36 (mw ad ca (mUz v 0)) [.int (b2i (!mEven v (nI i))), .int (mBehinds v i)] (fun H locs hI => ?_) (fun hj36 => ?_)
      · refine lv_iadd cx.1 cx.2.1 dX1_behind_36 ?_
        refine lv_istore_n (lv' := [(1, .int ((mBehinds v i) + (b2i (!mEven v (nI i))))), (2, .int (nI i)), (0, .ref (ad 0))]) cx.1 cx.2.1 dX1_behind_37 rfl hl (by decide) rfl (fun ls hl => ?_)
        refine lv_iinc (v := nI (i + 1)) (lv' := [(2, .int (nI (i + 1))), (1, .int ((mBehinds v i) + (b2i (!mEven v (nI i))))), (0, .ref (ad 0))]) cx.1 cx.2.1 dX1_behind_38 hl (k := 1) rfl (nI_1 i) (by decide) rfl (fun ls hl => ?_)
        refine lv_goto (tgt := 9) cx.1 cx.2.1 dX1_behind_41 (by decide) ?_
        refine ih _ _ _ ?_ ?_
        · show KI D A (mw ad ca (mUz v 0)) s.heap _ _
          exact hI
        · show lv_has _ _ [(2, .int (nI (i + 1))), (1, .int (mBehinds v (i + 1))), (0, .ref (ad 0))]
          rw [show mBehinds v (i + 1) = (mBehinds v i) + (b2i (!mEven v (nI i))) from (by simp [mBehinds, kSum])]
          exact lv_sub hl [0, 1, 2] rfl
      ·
        refine kb_eq (tgt := 35) cx dX1_behind_28 (by decide) (fun c_6 => ?_) (fun c_6 => ?_)
        · refine lv_iconst (v := 1) cx.1 cx.2.1 dX1_behind_35 (by decide) ?_
          exact k_top (by first | (simp [hp, c_6, b2i]; done) | (simp [hp, b2i]; exact fun h => absurd c_6 h)) (hj36 _ _ hI)
        · refine lv_iconst (v := 0) cx.1 cx.2.1 dX1_behind_31 (by decide) ?_
          refine lv_goto (tgt := 36) cx.1 cx.2.1 dX1_behind_32 (by decide) ?_
          exact k_top (by first | (simp [hp, c_6, b2i]; done) | (simp [hp, b2i]; exact fun h => absurd c_6 h)) (hj36 _ _ hI)
set_option maxHeartbeats 4000000 in
set_option maxRecDepth 100000 in
theorem kX1_sum (l : Launch) (D : va_G) (ca : Nat → ClassId) (ad : Nat → Nat) (v : MS) (col : Int32) : CM l yX1_sum cX1_sum 4 (some .int) (KR 2 42) D ca (mw ad ca v) [.ref (ad 0), .int col] (some (.int (if mfCol col = 0 then mSum v col 40 else 0))) (mw ad ca (mUz v (mfCol col))) := by
  refine CM.of (by decide) (Nat.le_of_ble_eq_true rfl) ?_
  intro p e s m below meth c A ls cx hml hr hlk hI hl
  have hl : lv_has ls 4 [(0, .ref (ad 0)), (1, .int col)] := hl
  refine lv_iconst (v := 0) cx.1 cx.2.1 dX1_sum_0 (by decide) ?_
  refine lv_istore_n (lv' := [(2, .int 0), (0, .ref (ad 0)), (1, .int col)]) cx.1 cx.2.1 dX1_sum_1 rfl hl (by decide) rfl (fun ls hl => ?_)
  rcases Bool.eq_false_or_eq_true (xWithin col 0 2) with hz | hz
  · refine lv_iconst (v := 0) cx.1 cx.2.1 dX1_sum_2 (by decide) ?_
    refine lv_istore_n (lv' := [(3, .int 0), (2, .int 0), (0, .ref (ad 0)), (1, .int col)]) cx.1 cx.2.1 dX1_sum_3 rfl hl (by decide) rfl (fun ls hl => ?_)
    refine k_loop 40 (fun i => (mw ad ca v)) (fun i => [(3, .int (nI i)), (2, .int (mSum v col i)), (0, .ref (ad 0)), (1, .int col)]) hI (lv_sub hl [0, 1, 2, 3] rfl) (fun H locs ls hI hl => ?_) (fun i hi H locs ls hI hl ih => ?_)
    · have hI : KI D A (mw ad ca v) s.heap H locs := hI
      have hl : lv_has ls 4 [(3, .int (nI 40)), (2, .int (mSum v col 40)), (0, .ref (ad 0)), (1, .int col)] := hl
      refine lv_iload_n cx.1 cx.2.1 dX1_sum_4 rfl (lv_at hl 0 rfl) ?_
      refine lv_bipush (v := 40) cx.1 cx.2.1 dX1_sum_5 (by decide) ?_
      refine lv_icmp_ge (tgt := 49) cx.1 cx.2.1 dX1_sum_7 (by decide) (fun _ => ?_) (fun h9 => absurd (by decide : (40 : Int32) ≤ nI 40) h9)
      refine lv_aload_n cx.1 cx.2.1 dX1_sum_49 rfl (lv_at hl 2 rfl) ?_
      refine k_join (D := D) (A := A) 62 (mw ad ca v) [.int (mfCol col), .ref (ad 0)] (fun H locs hI => ?_) (fun hj62 => ?_)
      · refine mc_i 1 cx (hl.1.trans hml.symm) (kX1_can l D ca ad v (mfCol col)) hI wk_512 wk_509 wk_511 wq_24 ⟨rfl, by decide +kernel⟩ rfl ⟨rfl, rfl⟩ ⟨Nat.le_of_ble_eq_true rfl, Nat.le_of_ble_eq_true rfl⟩ (Nat.le_of_ble_eq_true rfl) dX1_sum_62 ⟨Nat.zero_le _, Nat.zero_le _⟩ rfl (fun H locs hI => ?_)
        refine kb_eq (tgt := 72) cx dX1_sum_65 (by decide) (fun h9 => absurd h9 (by simp [mfCol, hz])) (fun _ => ?_)
        refine lv_iload_n cx.1 cx.2.1 dX1_sum_68 rfl (lv_at hl 1 rfl) ?_
        refine lv_goto (tgt := 73) cx.1 cx.2.1 dX1_sum_69 (by decide) ?_
        exact ke_i cx hr hlk hI (Nat.zero_le _) (Nat.zero_le _) dX1_sum_73 (congrArg (fun z => some (Value.int z)) (by simp [mfCol, hz])) rfl
      ·
        refine lv_iload_n cx.1 cx.2.1 dX1_sum_50 rfl (lv_at hl 3 rfl) ?_
        refine ks_i 1 cx (hl.1.trans hml.symm) (kX1_isColumn l D ca col) hI wk_610 wk_608 wk_609 wk_3 ⟨by decide, by decide, by decide +kernel⟩ rfl ⟨rfl, rfl⟩ ⟨Nat.le_of_ble_eq_true rfl, Nat.le_of_ble_eq_true rfl⟩ (Nat.le_of_ble_eq_true rfl) dX1_sum_51 ⟨Nat.zero_le _, Nat.zero_le _⟩ rfl (fun H locs hI => ?_)
        refine kb_eq (tgt := 61) cx dX1_sum_54 (by decide) (fun h9 => absurd h9 (by rw [hz]; decide)) (fun _ => ?_)
        refine lv_iconst (v := 0) cx.1 cx.2.1 dX1_sum_57 (by decide) ?_
        refine lv_goto (tgt := 62) cx.1 cx.2.1 dX1_sum_58 (by decide) ?_
        exact k_top (by first | (simp [mfCol, hz, mfCol]; done) | (simp [mfCol, mfCol]; exact fun h => absurd hz h)) (hj62 _ _ hI)
    · have hI : KI D A (mw ad ca v) s.heap H locs := hI
      have hl : lv_has ls 4 [(3, .int (nI i)), (2, .int (mSum v col i)), (0, .ref (ad 0)), (1, .int col)] := hl
      refine lv_iload_n cx.1 cx.2.1 dX1_sum_4 rfl (lv_at hl 0 rfl) ?_
      refine lv_bipush (v := 40) cx.1 cx.2.1 dX1_sum_5 (by decide) ?_
      refine lv_icmp_ge (tgt := 49) cx.1 cx.2.1 dX1_sum_7 (by decide) (fun h9 => absurd h9 (nI_ge hi (by decide))) (fun _ => ?_)
      refine lv_iload_n cx.1 cx.2.1 dX1_sum_10 rfl (lv_at hl 3 rfl) ?_
      refine ks_i 1 cx (hl.1.trans hml.symm) (kX1_isColumn l D ca col) hI wk_610 wk_608 wk_609 wk_3 ⟨by decide, by decide, by decide +kernel⟩ rfl ⟨rfl, rfl⟩ ⟨Nat.le_of_ble_eq_true rfl, Nat.le_of_ble_eq_true rfl⟩ (Nat.le_of_ble_eq_true rfl) dX1_sum_11 ⟨Nat.zero_le _, Nat.zero_le _⟩ rfl (fun H locs hI => ?_)
      refine kb_eq (tgt := 49) cx dX1_sum_14 (by decide) (fun h9 => absurd h9 (by rw [hz]; decide)) (fun _ => ?_)
      refine lv_iload_n cx.1 cx.2.1 dX1_sum_17 rfl (lv_at hl 1 rfl) ?_
      refine lv_aload_n cx.1 cx.2.1 dX1_sum_18 rfl (lv_at hl 2 rfl) ?_
      refine mg_2 cx hI dX1_sum_19 ?_
      refine lv_iload_n cx.1 cx.2.1 dX1_sum_22 rfl (lv_at hl 0 rfl) ?_
      refine ma_H cx hI (vp_in_nI hi (by decide)) dX1_sum_23 ?_
      refine k_join (D := D) (A := A) 41 (mw ad ca v) [.int (mSumI v col i), .int (mSum v col i)] (fun H locs hI => ?_) (fun hj41 => ?_)
      · refine lv_iadd cx.1 cx.2.1 dX1_sum_41 ?_
        refine lv_istore_n (lv' := [(2, .int ((mSum v col i) + (mSumI v col i))), (3, .int (nI i)), (0, .ref (ad 0)), (1, .int col)]) cx.1 cx.2.1 dX1_sum_42 rfl hl (by decide) rfl (fun ls hl => ?_)
        refine lv_iinc (v := nI (i + 1)) (lv' := [(3, .int (nI (i + 1))), (2, .int ((mSum v col i) + (mSumI v col i))), (0, .ref (ad 0)), (1, .int col)]) cx.1 cx.2.1 dX1_sum_43 hl (k := 1) rfl (nI_1 i) (by decide) rfl (fun ls hl => ?_)
        refine lv_goto (tgt := 4) cx.1 cx.2.1 dX1_sum_46 (by decide) ?_
        refine ih _ _ _ ?_ ?_
        · show KI D A (mw ad ca v) s.heap _ _
          exact hI
        · show lv_has _ _ [(3, .int (nI (i + 1))), (2, .int (mSum v col (i + 1))), (0, .ref (ad 0)), (1, .int col)]
          rw [show mSum v col (i + 1) = (mSum v col i) + (mSumI v col i) from (by simp [mfCol, mSum, kSum])]
          exact lv_sub hl [0, 1, 2, 3] rfl
      ·
        refine lv_if_eq (tgt := 40) cx.1 cx.2.1 dX1_sum_24 (by decide) (fun c_6 => ?_) (fun c_6 => ?_)
        · refine lv_iconst (v := 0) cx.1 cx.2.1 dX1_sum_40 (by decide) ?_
          exact k_top (by first | (simp [mfCol, hz, c_6, mSumI]; done) | (simp [mfCol, hz, mSumI]; exact fun h => absurd c_6 h)) (hj41 _ _ hI)
        · refine lv_aload_n cx.1 cx.2.1 dX1_sum_27 rfl (lv_at hl 2 rfl) ?_
          refine mg_1 cx hI dX1_sum_28 ?_
          refine lv_iconst (v := 3) cx.1 cx.2.1 dX1_sum_31 (by decide) ?_
          refine lv_iload_n cx.1 cx.2.1 dX1_sum_32 rfl (lv_at hl 0 rfl) ?_
          refine lv_imul cx.1 cx.2.1 dX1_sum_33 ?_
          refine lv_iload_n cx.1 cx.2.1 dX1_sum_34 rfl (lv_at hl 3 rfl) ?_
          refine lv_iadd cx.1 cx.2.1 dX1_sum_35 ?_
          refine ma_S cx hI (kidx (vp_in_nI hi (by decide)) (xCol_in hz)) dX1_sum_36 ?_
          refine lv_goto (tgt := 41) cx.1 cx.2.1 dX1_sum_37 (by decide) ?_
          exact k_top (by first | (simp [mfCol, hz, c_6, mSumI]; done) | (simp [mfCol, hz, mSumI]; exact fun h => absurd c_6 h)) (hj41 _ _ hI)
  · refine lv_iconst (v := 0) cx.1 cx.2.1 dX1_sum_2 (by decide) ?_
    refine lv_istore_n (lv' := [(3, .int 0), (2, .int 0), (0, .ref (ad 0)), (1, .int col)]) cx.1 cx.2.1 dX1_sum_3 rfl hl (by decide) rfl (fun ls hl => ?_)
    refine lv_iload_n cx.1 cx.2.1 dX1_sum_4 rfl (lv_at hl 0 rfl) ?_
    refine lv_bipush (v := 40) cx.1 cx.2.1 dX1_sum_5 (by decide) ?_
    refine lv_icmp_ge (tgt := 49) cx.1 cx.2.1 dX1_sum_7 (by decide) (fun h9 => absurd h9 (by decide)) (fun _ => ?_)
    refine lv_iload_n cx.1 cx.2.1 dX1_sum_10 rfl (lv_at hl 3 rfl) ?_
    refine ks_i 1 cx (hl.1.trans hml.symm) (kX1_isColumn l D ca col) hI wk_610 wk_608 wk_609 wk_3 ⟨by decide, by decide, by decide +kernel⟩ rfl ⟨rfl, rfl⟩ ⟨Nat.le_of_ble_eq_true rfl, Nat.le_of_ble_eq_true rfl⟩ (Nat.le_of_ble_eq_true rfl) dX1_sum_11 ⟨Nat.zero_le _, Nat.zero_le _⟩ rfl (fun H locs hI => ?_)
    refine kb_eq (tgt := 49) cx dX1_sum_14 (by decide) (fun _ => ?_) (fun h9 => absurd h9 (by rw [hz]; decide))
    refine lv_aload_n cx.1 cx.2.1 dX1_sum_49 rfl (lv_at hl 2 rfl) ?_
    refine k_join (D := D) (A := A) 62 (mw ad ca v) [.int (mfCol col), .ref (ad 0)] (fun H locs hI => ?_) (fun hj62 => ?_)
    · refine mc_i 1 cx (hl.1.trans hml.symm) (kX1_can l D ca ad v (mfCol col)) hI wk_512 wk_509 wk_511 wq_24 ⟨rfl, by decide +kernel⟩ rfl ⟨rfl, rfl⟩ ⟨Nat.le_of_ble_eq_true rfl, Nat.le_of_ble_eq_true rfl⟩ (Nat.le_of_ble_eq_true rfl) dX1_sum_62 ⟨Nat.zero_le _, Nat.zero_le _⟩ rfl (fun H locs hI => ?_)
      refine kb_eq (tgt := 72) cx dX1_sum_65 (by decide) (fun _ => ?_) (fun h9 => absurd h9 (by simp [mfCol, hz]))
      refine lv_iconst (v := 0) cx.1 cx.2.1 dX1_sum_72 (by decide) ?_
      exact ke_i cx hr hlk hI (Nat.zero_le _) (Nat.zero_le _) dX1_sum_73 (congrArg (fun z => some (Value.int z)) (by simp [mfCol, hz])) rfl
    ·
      refine lv_iload_n cx.1 cx.2.1 dX1_sum_50 rfl (lv_at hl 3 rfl) ?_
      refine ks_i 1 cx (hl.1.trans hml.symm) (kX1_isColumn l D ca col) hI wk_610 wk_608 wk_609 wk_3 ⟨by decide, by decide, by decide +kernel⟩ rfl ⟨rfl, rfl⟩ ⟨Nat.le_of_ble_eq_true rfl, Nat.le_of_ble_eq_true rfl⟩ (Nat.le_of_ble_eq_true rfl) dX1_sum_51 ⟨Nat.zero_le _, Nat.zero_le _⟩ rfl (fun H locs hI => ?_)
      refine kb_eq (tgt := 61) cx dX1_sum_54 (by decide) (fun _ => ?_) (fun h9 => absurd h9 (by rw [hz]; decide))
      refine lv_iconst (v := 1) cx.1 cx.2.1 dX1_sum_61 (by decide) ?_
      exact k_top (by first | (simp [mfCol, hz, mfCol]; done) | (simp [mfCol, mfCol]; exact fun h => absurd hz h)) (hj62 _ _ hI)
set_option maxHeartbeats 4000000 in
set_option maxRecDepth 100000 in
theorem kX1_sumAtOnce (l : Launch) (D : va_G) (ca : Nat → ClassId) (ad : Nat → Nat) (v : MS) (col : Int32) : CM l yX1_sumAtOnce cX1_sumAtOnce 4 (some .int) (KR 2 44) D ca (mw ad ca v) [.ref (ad 0), .int col] (some (.int (if mfCol col = 0 then (if mp v = 0 then 0 else mSumAt v col 40) else 0))) (mw ad ca (mUz v (mfCol col))) := by
  refine CM.of (by decide) (Nat.le_of_ble_eq_true rfl) ?_
  intro p e s m below meth c A ls cx hml hr hlk hI hl
  have hl : lv_has ls 4 [(0, .ref (ad 0)), (1, .int col)] := hl
  refine lv_iconst (v := 0) cx.1 cx.2.1 dX1_sumAtOnce_0 (by decide) ?_
  refine lv_istore_n (lv' := [(2, .int 0), (0, .ref (ad 0)), (1, .int col)]) cx.1 cx.2.1 dX1_sumAtOnce_1 rfl hl (by decide) rfl (fun ls hl => ?_)
  rcases Bool.eq_false_or_eq_true (xWithin col 0 2) with hz | hz
  · rcases Decidable.em (mp v = 0) with hp | hp
    · refine lv_iconst (v := 0) cx.1 cx.2.1 dX1_sumAtOnce_2 (by decide) ?_
      refine lv_istore_n (lv' := [(3, .int 0), (2, .int 0), (0, .ref (ad 0)), (1, .int col)]) cx.1 cx.2.1 dX1_sumAtOnce_3 rfl hl (by decide) rfl (fun ls hl => ?_)
      refine lv_iload_n cx.1 cx.2.1 dX1_sumAtOnce_4 rfl (lv_at hl 0 rfl) ?_
      refine lv_bipush (v := 40) cx.1 cx.2.1 dX1_sumAtOnce_5 (by decide) ?_
      refine lv_icmp_ge (tgt := 71) cx.1 cx.2.1 dX1_sumAtOnce_7 (by decide) (fun h9 => absurd h9 (by decide)) (fun _ => ?_)
      refine lv_iload_n cx.1 cx.2.1 dX1_sumAtOnce_10 rfl (lv_at hl 3 rfl) ?_
      refine ks_i 1 cx (hl.1.trans hml.symm) (kX1_isColumn l D ca col) hI wk_610 wk_608 wk_609 wk_3 ⟨by decide, by decide, by decide +kernel⟩ rfl ⟨rfl, rfl⟩ ⟨Nat.le_of_ble_eq_true rfl, Nat.le_of_ble_eq_true rfl⟩ (Nat.le_of_ble_eq_true rfl) dX1_sumAtOnce_11 ⟨Nat.zero_le _, Nat.zero_le _⟩ rfl (fun H locs hI => ?_)
      refine kb_eq (tgt := 71) cx dX1_sumAtOnce_14 (by decide) (fun h9 => absurd h9 (by rw [hz]; decide)) (fun _ => ?_)
      refine lv_aload_n cx.1 cx.2.1 dX1_sumAtOnce_17 rfl (lv_at hl 2 rfl) ?_
      refine mg_4 cx hI dX1_sumAtOnce_18 ?_
      refine lv_if_eq (tgt := 71) cx.1 cx.2.1 dX1_sumAtOnce_21 (by decide) (fun _ => ?_) (fun h9 => absurd hp h9)
      refine lv_aload_n cx.1 cx.2.1 dX1_sumAtOnce_71 rfl (lv_at hl 2 rfl) ?_
      refine k_join (D := D) (A := A) 84 (mw ad ca v) [.int (mfCol col), .ref (ad 0)] (fun H locs hI => ?_) (fun hj84 => ?_)
      · refine mc_i 1 cx (hl.1.trans hml.symm) (kX1_can l D ca ad v (mfCol col)) hI wk_512 wk_509 wk_511 wq_24 ⟨rfl, by decide +kernel⟩ rfl ⟨rfl, rfl⟩ ⟨Nat.le_of_ble_eq_true rfl, Nat.le_of_ble_eq_true rfl⟩ (Nat.le_of_ble_eq_true rfl) dX1_sumAtOnce_84 ⟨Nat.zero_le _, Nat.zero_le _⟩ rfl (fun H locs hI => ?_)
        refine kb_eq (tgt := 94) cx dX1_sumAtOnce_87 (by decide) (fun h9 => absurd h9 (by simp [mfCol, hz])) (fun _ => ?_)
        refine lv_iload_n cx.1 cx.2.1 dX1_sumAtOnce_90 rfl (lv_at hl 1 rfl) ?_
        refine lv_goto (tgt := 95) cx.1 cx.2.1 dX1_sumAtOnce_91 (by decide) ?_
        exact ke_i cx hr hlk hI (Nat.zero_le _) (Nat.zero_le _) dX1_sumAtOnce_95 (congrArg (fun z => some (Value.int z)) (by simp [mfCol, hz, hp])) rfl
      ·
        refine lv_iload_n cx.1 cx.2.1 dX1_sumAtOnce_72 rfl (lv_at hl 3 rfl) ?_
        refine ks_i 1 cx (hl.1.trans hml.symm) (kX1_isColumn l D ca col) hI wk_610 wk_608 wk_609 wk_3 ⟨by decide, by decide, by decide +kernel⟩ rfl ⟨rfl, rfl⟩ ⟨Nat.le_of_ble_eq_true rfl, Nat.le_of_ble_eq_true rfl⟩ (Nat.le_of_ble_eq_true rfl) dX1_sumAtOnce_73 ⟨Nat.zero_le _, Nat.zero_le _⟩ rfl (fun H locs hI => ?_)
        refine kb_eq (tgt := 83) cx dX1_sumAtOnce_76 (by decide) (fun h9 => absurd h9 (by rw [hz]; decide)) (fun _ => ?_)
        refine lv_iconst (v := 0) cx.1 cx.2.1 dX1_sumAtOnce_79 (by decide) ?_
        refine lv_goto (tgt := 84) cx.1 cx.2.1 dX1_sumAtOnce_80 (by decide) ?_
        exact k_top (by first | (simp [mfCol, hz, hp, mfCol]; done) | (simp [mfCol, hz, mfCol]; exact fun h => absurd hp h)) (hj84 _ _ hI)
    · refine lv_iconst (v := 0) cx.1 cx.2.1 dX1_sumAtOnce_2 (by decide) ?_
      refine lv_istore_n (lv' := [(3, .int 0), (2, .int 0), (0, .ref (ad 0)), (1, .int col)]) cx.1 cx.2.1 dX1_sumAtOnce_3 rfl hl (by decide) rfl (fun ls hl => ?_)
      refine k_loop 40 (fun i => (mw ad ca v)) (fun i => [(3, .int (nI i)), (2, .int (mSumAt v col i)), (0, .ref (ad 0)), (1, .int col)]) hI (lv_sub hl [0, 1, 2, 3] rfl) (fun H locs ls hI hl => ?_) (fun i hi H locs ls hI hl ih => ?_)
      · have hI : KI D A (mw ad ca v) s.heap H locs := hI
        have hl : lv_has ls 4 [(3, .int (nI 40)), (2, .int (mSumAt v col 40)), (0, .ref (ad 0)), (1, .int col)] := hl
        refine lv_iload_n cx.1 cx.2.1 dX1_sumAtOnce_4 rfl (lv_at hl 0 rfl) ?_
        refine lv_bipush (v := 40) cx.1 cx.2.1 dX1_sumAtOnce_5 (by decide) ?_
        refine lv_icmp_ge (tgt := 71) cx.1 cx.2.1 dX1_sumAtOnce_7 (by decide) (fun _ => ?_) (fun h9 => absurd (by decide : (40 : Int32) ≤ nI 40) h9)
        refine lv_aload_n cx.1 cx.2.1 dX1_sumAtOnce_71 rfl (lv_at hl 2 rfl) ?_
        refine k_join (D := D) (A := A) 84 (mw ad ca v) [.int (mfCol col), .ref (ad 0)] (fun H locs hI => ?_) (fun hj84 => ?_)
        · refine mc_i 1 cx (hl.1.trans hml.symm) (kX1_can l D ca ad v (mfCol col)) hI wk_512 wk_509 wk_511 wq_24 ⟨rfl, by decide +kernel⟩ rfl ⟨rfl, rfl⟩ ⟨Nat.le_of_ble_eq_true rfl, Nat.le_of_ble_eq_true rfl⟩ (Nat.le_of_ble_eq_true rfl) dX1_sumAtOnce_84 ⟨Nat.zero_le _, Nat.zero_le _⟩ rfl (fun H locs hI => ?_)
          refine kb_eq (tgt := 94) cx dX1_sumAtOnce_87 (by decide) (fun h9 => absurd h9 (by simp [mfCol, hz])) (fun _ => ?_)
          refine lv_iload_n cx.1 cx.2.1 dX1_sumAtOnce_90 rfl (lv_at hl 1 rfl) ?_
          refine lv_goto (tgt := 95) cx.1 cx.2.1 dX1_sumAtOnce_91 (by decide) ?_
          exact ke_i cx hr hlk hI (Nat.zero_le _) (Nat.zero_le _) dX1_sumAtOnce_95 (congrArg (fun z => some (Value.int z)) (by simp [mfCol, hz, hp])) rfl
        ·
          refine lv_iload_n cx.1 cx.2.1 dX1_sumAtOnce_72 rfl (lv_at hl 3 rfl) ?_
          refine ks_i 1 cx (hl.1.trans hml.symm) (kX1_isColumn l D ca col) hI wk_610 wk_608 wk_609 wk_3 ⟨by decide, by decide, by decide +kernel⟩ rfl ⟨rfl, rfl⟩ ⟨Nat.le_of_ble_eq_true rfl, Nat.le_of_ble_eq_true rfl⟩ (Nat.le_of_ble_eq_true rfl) dX1_sumAtOnce_73 ⟨Nat.zero_le _, Nat.zero_le _⟩ rfl (fun H locs hI => ?_)
          refine kb_eq (tgt := 83) cx dX1_sumAtOnce_76 (by decide) (fun h9 => absurd h9 (by rw [hz]; decide)) (fun _ => ?_)
          refine lv_iconst (v := 0) cx.1 cx.2.1 dX1_sumAtOnce_79 (by decide) ?_
          refine lv_goto (tgt := 84) cx.1 cx.2.1 dX1_sumAtOnce_80 (by decide) ?_
          exact k_top (by first | (simp [mfCol, hz, hp, mfCol]; done) | (simp [mfCol, hz, mfCol]; exact fun h => absurd hp h)) (hj84 _ _ hI)
      · have hI : KI D A (mw ad ca v) s.heap H locs := hI
        have hl : lv_has ls 4 [(3, .int (nI i)), (2, .int (mSumAt v col i)), (0, .ref (ad 0)), (1, .int col)] := hl
        refine lv_iload_n cx.1 cx.2.1 dX1_sumAtOnce_4 rfl (lv_at hl 0 rfl) ?_
        refine lv_bipush (v := 40) cx.1 cx.2.1 dX1_sumAtOnce_5 (by decide) ?_
        refine lv_icmp_ge (tgt := 71) cx.1 cx.2.1 dX1_sumAtOnce_7 (by decide) (fun h9 => absurd h9 (nI_ge hi (by decide))) (fun _ => ?_)
        refine lv_iload_n cx.1 cx.2.1 dX1_sumAtOnce_10 rfl (lv_at hl 3 rfl) ?_
        refine ks_i 1 cx (hl.1.trans hml.symm) (kX1_isColumn l D ca col) hI wk_610 wk_608 wk_609 wk_3 ⟨by decide, by decide, by decide +kernel⟩ rfl ⟨rfl, rfl⟩ ⟨Nat.le_of_ble_eq_true rfl, Nat.le_of_ble_eq_true rfl⟩ (Nat.le_of_ble_eq_true rfl) dX1_sumAtOnce_11 ⟨Nat.zero_le _, Nat.zero_le _⟩ rfl (fun H locs hI => ?_)
        refine kb_eq (tgt := 71) cx dX1_sumAtOnce_14 (by decide) (fun h9 => absurd h9 (by rw [hz]; decide)) (fun _ => ?_)
        refine lv_aload_n cx.1 cx.2.1 dX1_sumAtOnce_17 rfl (lv_at hl 2 rfl) ?_
        refine mg_4 cx hI dX1_sumAtOnce_18 ?_
        refine lv_if_eq (tgt := 71) cx.1 cx.2.1 dX1_sumAtOnce_21 (by decide) (fun h9 => absurd h9 hp) (fun _ => ?_)
        refine lv_iload_n cx.1 cx.2.1 dX1_sumAtOnce_24 rfl (lv_at hl 1 rfl) ?_
        refine k_join (D := D) (A := A) 63 (mw ad ca v) [.int (mSumAI v col i), .int (mSumAt v col i)] (fun H locs hI => ?_) (fun hj63 => ?_)
        · refine lv_iadd cx.1 cx.2.1 dX1_sumAtOnce_63 ?_
          refine lv_istore_n (lv' := [(2, .int ((mSumAt v col i) + (mSumAI v col i))), (3, .int (nI i)), (0, .ref (ad 0)), (1, .int col)]) cx.1 cx.2.1 dX1_sumAtOnce_64 rfl hl (by decide) rfl (fun ls hl => ?_)
          refine lv_iinc (v := nI (i + 1)) (lv' := [(3, .int (nI (i + 1))), (2, .int ((mSumAt v col i) + (mSumAI v col i))), (0, .ref (ad 0)), (1, .int col)]) cx.1 cx.2.1 dX1_sumAtOnce_65 hl (k := 1) rfl (nI_1 i) (by decide) rfl (fun ls hl => ?_)
          refine lv_goto (tgt := 4) cx.1 cx.2.1 dX1_sumAtOnce_68 (by decide) ?_
          refine ih _ _ _ ?_ ?_
          · show KI D A (mw ad ca v) s.heap _ _
            exact hI
          · show lv_has _ _ [(3, .int (nI (i + 1))), (2, .int (mSumAt v col (i + 1))), (0, .ref (ad 0)), (1, .int col)]
            rw [show mSumAt v col (i + 1) = (mSumAt v col i) + (mSumAI v col i) from (by simp [mfCol, mSumAt, kSum])]
            exact lv_sub hl [0, 1, 2, 3] rfl
        ·
          refine lv_aload_n cx.1 cx.2.1 dX1_sumAtOnce_25 rfl (lv_at hl 2 rfl) ?_
          refine mg_0 cx hI dX1_sumAtOnce_26 ?_
          refine lv_iload_n cx.1 cx.2.1 dX1_sumAtOnce_29 rfl (lv_at hl 0 rfl) ?_
          refine ma_O cx hI (vp_in_nI hi (by decide)) dX1_sumAtOnce_30 ?_
          refine lv_iconst (v := (-1)) cx.1 cx.2.1 dX1_sumAtOnce_31 (by decide) ?_
          refine lv_icmp_eq (tgt := 62) cx.1 cx.2.1 dX1_sumAtOnce_32 (by decide) (fun c_12 => ?_) (fun c_12 => ?_)
          · refine lv_iconst (v := 0) cx.1 cx.2.1 dX1_sumAtOnce_62 (by decide) ?_
            exact k_top (by first | (simp [mfCol, hz, hp, c_12, mSumAI, mDue]; done) | (simp [mfCol, hz, hp, mSumAI, mDue]; exact fun h => absurd c_12 h)) (hj63 _ _ hI)
          · refine lv_aload_n cx.1 cx.2.1 dX1_sumAtOnce_35 rfl (lv_at hl 2 rfl) ?_
            refine lv_aload_n cx.1 cx.2.1 dX1_sumAtOnce_36 rfl (lv_at hl 2 rfl) ?_
            refine mg_0 cx hI dX1_sumAtOnce_37 ?_
            refine lv_iload_n cx.1 cx.2.1 dX1_sumAtOnce_40 rfl (lv_at hl 0 rfl) ?_
            refine ma_O cx hI (vp_in_nI hi (by decide)) dX1_sumAtOnce_41 ?_
            refine mc_i 1 cx (hl.1.trans hml.symm) (kX1_suits l D ca ad v (mO v (nI i).toNatClampNeg)) hI wk_504 wk_501 wk_503 wq_22 ⟨rfl, by decide +kernel⟩ rfl ⟨rfl, rfl⟩ ⟨Nat.le_of_ble_eq_true rfl, Nat.le_of_ble_eq_true rfl⟩ (Nat.le_of_ble_eq_true rfl) dX1_sumAtOnce_42 ⟨Nat.zero_le _, Nat.zero_le _⟩ rfl (fun H locs hI => ?_)
            refine kb_eq (tgt := 62) cx dX1_sumAtOnce_45 (by decide) (fun c_13 => ?_) (fun c_13 => ?_)
            · refine lv_iconst (v := 0) cx.1 cx.2.1 dX1_sumAtOnce_62 (by decide) ?_
              exact k_top (by first | (simp [mfCol, hz, hp, c_12, c_13, mSumAI, mDue]; done) | (simp [mfCol, hz, hp, c_12, mSumAI, mDue]; exact fun h => absurd c_13 h)) (hj63 _ _ hI)
            · refine lv_aload_n cx.1 cx.2.1 dX1_sumAtOnce_48 rfl (lv_at hl 2 rfl) ?_
              refine lv_aload_n cx.1 cx.2.1 dX1_sumAtOnce_49 rfl (lv_at hl 2 rfl) ?_
              refine mg_0 cx hI dX1_sumAtOnce_50 ?_
              refine lv_iload_n cx.1 cx.2.1 dX1_sumAtOnce_53 rfl (lv_at hl 0 rfl) ?_
              refine ma_O cx hI (vp_in_nI hi (by decide)) dX1_sumAtOnce_54 ?_
              refine lv_iload_n cx.1 cx.2.1 dX1_sumAtOnce_55 rfl (lv_at hl 3 rfl) ?_
              refine mc_i 2 cx (hl.1.trans hml.symm) (kX1_altered l D ca ad v (mO v (nI i).toNatClampNeg) col) hI wk_528 wk_525 wk_527 wq_28 ⟨rfl, by decide +kernel⟩ rfl ⟨rfl, rfl⟩ ⟨Nat.le_of_ble_eq_true rfl, Nat.le_of_ble_eq_true rfl⟩ (Nat.le_of_ble_eq_true rfl) dX1_sumAtOnce_56 ⟨Nat.zero_le _, Nat.zero_le _⟩ rfl (fun H locs hI => ?_)
              refine lv_goto (tgt := 63) cx.1 cx.2.1 dX1_sumAtOnce_59 (by decide) ?_
              exact k_top (by first | (simp [mfCol, hz, hp, c_12, c_13, mSumAI, mDue]; done) | (simp [mfCol, hz, hp, c_12, mSumAI, mDue]; exact fun h => absurd c_13 h)) (hj63 _ _ hI)
  · rcases Decidable.em (mp v = 0) with hp | hp
    · refine lv_iconst (v := 0) cx.1 cx.2.1 dX1_sumAtOnce_2 (by decide) ?_
      refine lv_istore_n (lv' := [(3, .int 0), (2, .int 0), (0, .ref (ad 0)), (1, .int col)]) cx.1 cx.2.1 dX1_sumAtOnce_3 rfl hl (by decide) rfl (fun ls hl => ?_)
      refine lv_iload_n cx.1 cx.2.1 dX1_sumAtOnce_4 rfl (lv_at hl 0 rfl) ?_
      refine lv_bipush (v := 40) cx.1 cx.2.1 dX1_sumAtOnce_5 (by decide) ?_
      refine lv_icmp_ge (tgt := 71) cx.1 cx.2.1 dX1_sumAtOnce_7 (by decide) (fun h9 => absurd h9 (by decide)) (fun _ => ?_)
      refine lv_iload_n cx.1 cx.2.1 dX1_sumAtOnce_10 rfl (lv_at hl 3 rfl) ?_
      refine ks_i 1 cx (hl.1.trans hml.symm) (kX1_isColumn l D ca col) hI wk_610 wk_608 wk_609 wk_3 ⟨by decide, by decide, by decide +kernel⟩ rfl ⟨rfl, rfl⟩ ⟨Nat.le_of_ble_eq_true rfl, Nat.le_of_ble_eq_true rfl⟩ (Nat.le_of_ble_eq_true rfl) dX1_sumAtOnce_11 ⟨Nat.zero_le _, Nat.zero_le _⟩ rfl (fun H locs hI => ?_)
      refine kb_eq (tgt := 71) cx dX1_sumAtOnce_14 (by decide) (fun _ => ?_) (fun h9 => absurd h9 (by rw [hz]; decide))
      refine lv_aload_n cx.1 cx.2.1 dX1_sumAtOnce_71 rfl (lv_at hl 2 rfl) ?_
      refine k_join (D := D) (A := A) 84 (mw ad ca v) [.int (mfCol col), .ref (ad 0)] (fun H locs hI => ?_) (fun hj84 => ?_)
      · refine mc_i 1 cx (hl.1.trans hml.symm) (kX1_can l D ca ad v (mfCol col)) hI wk_512 wk_509 wk_511 wq_24 ⟨rfl, by decide +kernel⟩ rfl ⟨rfl, rfl⟩ ⟨Nat.le_of_ble_eq_true rfl, Nat.le_of_ble_eq_true rfl⟩ (Nat.le_of_ble_eq_true rfl) dX1_sumAtOnce_84 ⟨Nat.zero_le _, Nat.zero_le _⟩ rfl (fun H locs hI => ?_)
        refine kb_eq (tgt := 94) cx dX1_sumAtOnce_87 (by decide) (fun _ => ?_) (fun h9 => absurd h9 (by simp [mfCol, hz]))
        refine lv_iconst (v := 0) cx.1 cx.2.1 dX1_sumAtOnce_94 (by decide) ?_
        exact ke_i cx hr hlk hI (Nat.zero_le _) (Nat.zero_le _) dX1_sumAtOnce_95 (congrArg (fun z => some (Value.int z)) (by simp [mfCol, hz, hp])) rfl
      ·
        refine lv_iload_n cx.1 cx.2.1 dX1_sumAtOnce_72 rfl (lv_at hl 3 rfl) ?_
        refine ks_i 1 cx (hl.1.trans hml.symm) (kX1_isColumn l D ca col) hI wk_610 wk_608 wk_609 wk_3 ⟨by decide, by decide, by decide +kernel⟩ rfl ⟨rfl, rfl⟩ ⟨Nat.le_of_ble_eq_true rfl, Nat.le_of_ble_eq_true rfl⟩ (Nat.le_of_ble_eq_true rfl) dX1_sumAtOnce_73 ⟨Nat.zero_le _, Nat.zero_le _⟩ rfl (fun H locs hI => ?_)
        refine kb_eq (tgt := 83) cx dX1_sumAtOnce_76 (by decide) (fun _ => ?_) (fun h9 => absurd h9 (by rw [hz]; decide))
        refine lv_iconst (v := 1) cx.1 cx.2.1 dX1_sumAtOnce_83 (by decide) ?_
        exact k_top (by first | (simp [mfCol, hz, hp, mfCol]; done) | (simp [mfCol, hz, mfCol]; exact fun h => absurd hp h)) (hj84 _ _ hI)
    · refine lv_iconst (v := 0) cx.1 cx.2.1 dX1_sumAtOnce_2 (by decide) ?_
      refine lv_istore_n (lv' := [(3, .int 0), (2, .int 0), (0, .ref (ad 0)), (1, .int col)]) cx.1 cx.2.1 dX1_sumAtOnce_3 rfl hl (by decide) rfl (fun ls hl => ?_)
      refine lv_iload_n cx.1 cx.2.1 dX1_sumAtOnce_4 rfl (lv_at hl 0 rfl) ?_
      refine lv_bipush (v := 40) cx.1 cx.2.1 dX1_sumAtOnce_5 (by decide) ?_
      refine lv_icmp_ge (tgt := 71) cx.1 cx.2.1 dX1_sumAtOnce_7 (by decide) (fun h9 => absurd h9 (by decide)) (fun _ => ?_)
      refine lv_iload_n cx.1 cx.2.1 dX1_sumAtOnce_10 rfl (lv_at hl 3 rfl) ?_
      refine ks_i 1 cx (hl.1.trans hml.symm) (kX1_isColumn l D ca col) hI wk_610 wk_608 wk_609 wk_3 ⟨by decide, by decide, by decide +kernel⟩ rfl ⟨rfl, rfl⟩ ⟨Nat.le_of_ble_eq_true rfl, Nat.le_of_ble_eq_true rfl⟩ (Nat.le_of_ble_eq_true rfl) dX1_sumAtOnce_11 ⟨Nat.zero_le _, Nat.zero_le _⟩ rfl (fun H locs hI => ?_)
      refine kb_eq (tgt := 71) cx dX1_sumAtOnce_14 (by decide) (fun _ => ?_) (fun h9 => absurd h9 (by rw [hz]; decide))
      refine lv_aload_n cx.1 cx.2.1 dX1_sumAtOnce_71 rfl (lv_at hl 2 rfl) ?_
      refine k_join (D := D) (A := A) 84 (mw ad ca v) [.int (mfCol col), .ref (ad 0)] (fun H locs hI => ?_) (fun hj84 => ?_)
      · refine mc_i 1 cx (hl.1.trans hml.symm) (kX1_can l D ca ad v (mfCol col)) hI wk_512 wk_509 wk_511 wq_24 ⟨rfl, by decide +kernel⟩ rfl ⟨rfl, rfl⟩ ⟨Nat.le_of_ble_eq_true rfl, Nat.le_of_ble_eq_true rfl⟩ (Nat.le_of_ble_eq_true rfl) dX1_sumAtOnce_84 ⟨Nat.zero_le _, Nat.zero_le _⟩ rfl (fun H locs hI => ?_)
        refine kb_eq (tgt := 94) cx dX1_sumAtOnce_87 (by decide) (fun _ => ?_) (fun h9 => absurd h9 (by simp [mfCol, hz]))
        refine lv_iconst (v := 0) cx.1 cx.2.1 dX1_sumAtOnce_94 (by decide) ?_
        exact ke_i cx hr hlk hI (Nat.zero_le _) (Nat.zero_le _) dX1_sumAtOnce_95 (congrArg (fun z => some (Value.int z)) (by simp [mfCol, hz, hp])) rfl
      ·
        refine lv_iload_n cx.1 cx.2.1 dX1_sumAtOnce_72 rfl (lv_at hl 3 rfl) ?_
        refine ks_i 1 cx (hl.1.trans hml.symm) (kX1_isColumn l D ca col) hI wk_610 wk_608 wk_609 wk_3 ⟨by decide, by decide, by decide +kernel⟩ rfl ⟨rfl, rfl⟩ ⟨Nat.le_of_ble_eq_true rfl, Nat.le_of_ble_eq_true rfl⟩ (Nat.le_of_ble_eq_true rfl) dX1_sumAtOnce_73 ⟨Nat.zero_le _, Nat.zero_le _⟩ rfl (fun H locs hI => ?_)
        refine kb_eq (tgt := 83) cx dX1_sumAtOnce_76 (by decide) (fun _ => ?_) (fun h9 => absurd h9 (by rw [hz]; decide))
        refine lv_iconst (v := 1) cx.1 cx.2.1 dX1_sumAtOnce_83 (by decide) ?_
        exact k_top (by first | (simp [mfCol, hz, hp, mfCol]; done) | (simp [mfCol, hz, mfCol]; exact fun h => absurd hp h)) (hj84 _ _ hI)
end
section
theorem zz_look : True := trivial
end

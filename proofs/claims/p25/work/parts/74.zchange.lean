/-! MINE: what a change's own calls do to what the law looks at. -/
def zGo (v : XS) : Nat → Int32 := kSum (fun i => b2i (xOld v (nI i) && !xSeen v (nI i)))
theorem go_a {v : XS} {k : Int32} (h : xOld v k = false) : (0 : Int32) = b2i (xOld v k && !xSeen v k) := by
  rw [h]
  rfl
theorem go_b {v : XS} {k : Int32} (h : xSeen v k = true) : (0 : Int32) = b2i (xOld v k && !xSeen v k) := by
  rw [h]
  cases xOld v k <;> rfl
theorem go_c {v : XS} {k : Int32} (h : xOld v k = true) (h2 : xSeen v k = false) : (1 : Int32) = b2i (xOld v k && !xSeen v k) := by
  rw [h, h2]
  rfl
theorem rem_n {Y d : Nat} (hY : Y < 2 ^ 30) (h0 : 0 < d) (hd : d < 2 ^ 31) : nI Y - nI Y / nI d * nI d = nI (Y % d) := pk_rem (by omega) h0 hd
theorem div_n {Y d : Nat} (hY : Y < 2 ^ 30) (h0 : 0 < d) (hd : d < 2 ^ 31) : nI Y / nI d = nI (Y / d) := pk_div (by omega) h0 hd
theorem most_ex {Y : Nat} (hY : Y < 2 ^ 30) (t : Int32) : ∃ q : Nat, q ≤ 1000 ∧ (t = 0 → nI Y - nI Y / 4 * 4 = nI q) ∧ (¬ t = 0 → nI Y - nI Y / 1001 * 1001 = nI q) := by
  by_cases h : t = 0
  · exact ⟨Y % 4, by omega, fun _ => rem_n (d := 4) hY (by decide) (by decide), fun q => absurd h q⟩
  · exact ⟨Y % 1001, by omega, fun q => absurd q h, fun _ => rem_n (d := 1001) hY (by decide) (by decide)⟩
theorem param_ex {Y : Nat} (hY : Y < 2 ^ 30) (t : Int32) : ∃ q : Nat, q ≤ 999 ∧ (t = 0 → (nI Y / 3) - (nI Y / 3) / 1000 * 1000 = nI q) ∧ (¬ t = 0 → 300 + ((nI Y / 3) - (nI Y / 3) / 500 * 500) = nI q) := by
  have e : nI Y / 3 = nI (Y / 3) := div_n (d := 3) hY (by decide) (by decide)
  have hb : Y / 3 < 2 ^ 30 := by omega
  rw [e]
  by_cases h : t = 0
  · exact ⟨Y / 3 % 1000, by omega, fun _ => rem_n (d := 1000) hb (by decide) (by decide), fun q => absurd h q⟩
  · refine ⟨300 + Y / 3 % 500, by omega, fun q => absurd q h, fun _ => ?_⟩
    rw [← nI_add]
    exact congrArg (fun z => nI 300 + z) (rem_n (d := 500) hb (by decide) (by decide))
theorem within_m {q : Nat} (hq : q ≤ 1000) : xWithin (nI q) 0 1000 = true := by
  unfold xWithin
  rw [decide_eq_false (nI_pos (by omega)), decide_eq_false (fun z => by have := (nI_ltI (a := 1000) (b := q) (by decide) (by omega)).mp z; omega)]
  rfl
theorem within_2 {q : Nat} (hq : q ≤ 2) : xWithin (nI q) 0 2 = true := by
  unfold xWithin
  rw [decide_eq_false (nI_pos (by omega)), decide_eq_false (fun z => by have := (nI_ltI (a := 2) (b := q) (by decide) (by omega)).mp z; omega)]
  rfl
theorem m40 {m : Nat} (hm : m ≤ 40) : nI m = 40 ↔ m = 40 := nI_eq (a := m) (b := 40) (by omega) (by decide)
theorem m40l {m : Nat} (hm : m ≤ 40) (h : ¬ nI m = 40) : nI m < 40 := (nI_ltI (a := m) (b := 40) (by omega) (by decide)).mpr (by
  have : m ≠ 40 := fun q => h ((m40 hm).mpr q)
  omega)
theorem fcut_0 {v : XS} {q : Nat} (hq : q ≤ 1000) (h : xp v = 1 ∧ xm v = 40 ∧ xc v ≤ nI q) : xfCut v (nI q) = 0 := by
  unfold xfCut
  rw [within_m hq, h.1, h.2.1, decide_eq_true h.2.2]
  rfl
theorem fcut_2 {v : XS} {q m : Nat} (hq : q ≤ 1000) (hm : m ≤ 40 ∧ xm v = nI m) (h : ¬ (xp v = 1 ∧ xm v = 40 ∧ xc v ≤ nI q)) : xfCut v (nI q) = 2 := by
  unfold xfCut
  rw [within_m hq]
  by_cases h1 : xp v = 1
  · by_cases h2 : xm v = 40
    · have h3 : ¬ xc v ≤ nI q := fun z => h ⟨h1, h2, z⟩
      rw [decide_eq_false h3]
      cases decide (xp v = 1) <;> cases decide (xm v < 40) <;> rfl
    · have h3 : xm v < 40 := by
        rw [hm.2] at h2 ⊢
        exact m40l hm.1 h2
      rw [decide_eq_true h3]
      cases decide (xp v = 1) <;> rfl
  · rw [decide_eq_false h1]
    rfl
theorem fund_0 {v : XS} (h : xp v = 2) : xfUndo v = 0 := if_pos h
theorem fund_1 {v : XS} (h : ¬ xp v = 2) : xfUndo v = 1 := if_neg h
theorem fgiv_0 {v : XS} (h : xp v = 1) : xfGive v = 0 := if_pos h
theorem fgiv_1 {v : XS} (h : ¬ xp v = 1) : xfGive v = 1 := if_neg h
theorem fsta_0 {v : XS} {al pa : Nat} (ha : al ≤ 2) (hp : pa ≤ 999) (h : xp v = 0) : xfStart v (nI al) (nI pa) = 0 := by
  unfold xfStart
  rw [within_2 ha, within_n hp, if_pos h]
  rfl
theorem fsta_2 {v : XS} {al pa : Nat} (ha : al ≤ 2) (hp : pa ≤ 999) (h : ¬ xp v = 0) : xfStart v (nI al) (nI pa) = 2 := by
  unfold xfStart
  rw [within_2 ha, within_n hp, if_neg h]
  rfl
/-- the end of a change -/
theorem end_o (w : XS) : xA (xEnd w) = xA w ∧ xB (xEnd w) = xB w ∧ xt (xEnd w) = xt w ∧ xq (xEnd w) = xq w ∧ xk (xEnd w) = xk w ∧ xl (xEnd w) = xl w ∧ xm (xEnd w) = xm w ∧ xp (xEnd w) = 0 ∧ xc (xEnd w) = 0 ∧ ∀ j, j < 40 → xC0 (xEnd w) j = -1 := by
  obtain ⟨r, e, -⟩ := xEnd_is w
  rw [e]
  exact ⟨rfl, rfl, rfl, rfl, rfl, rfl, rfl, rfl, rfl, fun j hj => kFill_in hj⟩
theorem rem_o (v : XS) : xt (xRem v 40) = xt v ∧ xq (xRem v 40) = xq v ∧ xk (xRem v 40) = xk v ∧ xl (xRem v 40) = xl v ∧ xm (xRem v 40) = xm v := by
  obtain ⟨f, g, e, -⟩ := xRem_is (v := v) 40 (Nat.le_refl _)
  rw [e]
  exact ⟨rfl, rfl, rfl, rfl, rfl⟩
theorem rows_none {w : XS} (h : ∀ j, j < 40 → xC0 w j = -1) : xShRows w 40 = 0 := kSum_zero fun j hj => by
  unfold xSh
  show b2i (!decide (xC0 w (nI j).toNatClampNeg = -1)) = 0
  rw [kx hj, h j hj]
  rfl
theorem lO_end (w : XS) : lO w = lO (xEnd w) := (lO_of (end_o w).1 (end_o w).2.1).symm
theorem lC_end (w : XS) (h : xt w = xt w) : lK 0 (xt w) (xq w) (xk w) (xl w) (xm w) 0 = lC (xEnd w) := by
  obtain ⟨-, -, e1, e2, e3, e4, e5, e6, e7, -⟩ := end_o w
  unfold lC
  rw [e1, e2, e3, e4, e5, e6, e7]
theorem lC_fin {v : XS} (hc : xc v = 0) : lK 0 (xt v) (xq v) (xk v) (xl v) (xm v) (xc v) = lC (xEnd (xRem v 40)) := by
  obtain ⟨e1, e2, e3, e4, e5⟩ := rem_o v
  rw [← lC_end _ rfl, e1, e2, e3, e4, e5, hc]
theorem fin_gone {v : XS} (hp : xp v = 2) : xRemN v 40 = zGo v 40 := by
  rw [xRemN_is 40 (Nat.le_refl _)]
  exact kSum_congr fun i _ => by
    unfold xGo xSeen
    rw [decide_eq_true hp]
    cases xOld v (nI i) <;> cases xSh v (nI i) <;> rfl
theorem seen_idle {w : XS} (hp : xp w = 0) (k : Int32) : xSeen w k = xOld w k := by
  unfold xSeen
  rw [decide_eq_false (by rw [hp]; decide)]
  cases xOld w k <;> rfl
theorem fin_rows {n c m : Nat} {v : XS} (h : zX zE n c m v) (hp : xp v = 2) : xRows (xEnd (xRem v 40)) 40 = xShRows v 40 := kSum_congr fun i hi => by
  rw [seen_idle (end_o _).2.2.2.2.2.2.2.1]
  have hd := cut_seen h hp hi
  obtain ⟨f, g, e, h1, h2, -⟩ := xRem_is (v := v) 40 (Nat.le_refl _)
  have e1 : xOld (xEnd (xRem v 40)) (nI i) = !decide (f i = -1) := by
    unfold xOld
    rw [(end_o _).1, e, kx hi]
    rfl
  rw [e1]
  have hs : xSeen v (nI i) = (xOld v (nI i) && xSh v (nI i)) := by
    unfold xSeen
    rw [decide_eq_true hp]
    rfl
  have hsh : xSh v (nI i) = true → xOld v (nI i) = true := fun q => by
    rcases h.2.2.2 with ⟨z, -⟩ | ⟨z, -⟩ | ⟨-, -, -, z⟩
    · rw [z] at hp
      exact absurd hp (by decide)
    · rw [z] at hp
      exact absurd hp (by decide)
    · rw [zB_sh h.1.2.1 hi (h.1.1 i hi).1 ((z i hi).elim False.elim id)] at q
      unfold lDue at q
      exact (Bool.and_eq_true_iff.mp q).1
  cases hg : xGo v i with
  | true =>
    rw [h1 i hi hg]
    unfold xGo at hg
    have := (Bool.and_eq_true_iff.mp hg).2
    cases hq : xSh v (nI i) with
    | false => rfl
    | true => rw [hq] at this; exact absurd this (by decide)
  | false =>
    rw [(h2 i hi hg).1]
    have ho : (!decide (xA v i = -1)) = xOld v (nI i) := by
      unfold xOld
      rw [kx hi]
    rw [ho]
    unfold xGo at hg
    cases hq : xSh v (nI i) with
    | true => rw [hsh hq]
    | false =>
      rw [hq] at hg
      cases hq2 : xOld v (nI i) with
      | false => rfl
      | true => rw [hq2] at hg; exact absurd hg (by decide)
theorem row_lO {w : XS} (hp : xp w = 0) {k : Nat} (hk : k < 40) : (if xSeen w (nI k) then xRow w (nI k) else -1) = lO w k := by
  rw [seen_idle hp]
  cases ho : xOld w (nI k) with
  | true =>
    rw [if_pos rfl]
    exact (lO_row hk ho).symm
  | false =>
    rw [if_neg (by decide)]
    unfold xOld at ho
    rw [kx hk] at ho
    by_cases e : xA w k = -1
    · exact (lO_neg e).symm
    · rw [decide_eq_false e] at ho
      exact absurd ho (by decide)
def zFo (v w : XS) (k : Nat) : Nat → Int32 := fun j => if j < k then lO w j else lO v j
theorem zFo_0 (v w : XS) : zFo v w 0 = lO v := funext fun j => if_neg (Nat.not_lt_zero j)
theorem zFo_step (v w : XS) (k : Nat) : zFo v w (k + 1) = upd (zFo v w k) k (lO w k) := funext fun j => by
  by_cases e : j = k
  · subst e
    rw [pk_us]
    exact if_pos (Nat.lt_succ_self j)
  · rw [pk_un e]
    unfold zFo
    by_cases h : j < k
    · rw [if_pos h, if_pos (by omega)]
    · rw [if_neg h, if_neg (by omega)]
theorem zFo_40 (v : XS) : zFo v (xEnd (xRem v 40)) 40 = lO (xEnd (xRem v 40)) := funext fun j => by
  unfold zFo
  by_cases h : j < 40
  · exact if_pos h
  · rw [if_neg h]
    obtain ⟨f, g, e, -, -, h3⟩ := xRem_is (v := v) 40 (Nat.le_refl _)
    unfold lO
    rw [(end_o _).1, (end_o _).2.1, e]
    show _ = if f j = -1 then -1 else 1000 * f j + g j
    rw [(h3 j (by omega)).1, (h3 j (by omega)).2]
theorem cut_beh {n c m : Nat} {v : XS} (h : zX zE n c m v) (hp : xp v = 2) : (if xp v = 0 then 0 else xBehinds v 40) = 0 := by
  rw [if_neg (by rw [hp]; decide)]
  exact beh_zero fun j hj => by
    rcases h.2.2.2 with ⟨z, -⟩ | ⟨z, -⟩ | ⟨-, -, -, z⟩
    · rw [z] at hp
      exact absurd hp (by decide)
    · rw [z] at hp
      exact absurd hp (by decide)
    · exact (z j hj).elim False.elim id
theorem cut_c0 {n c m : Nat} {v : XS} (h : zX zE n c m v) (hp : xp v = 2) : xc v = 0 := by
  rcases h.2.2.2 with ⟨z, -⟩ | ⟨z, -⟩ | ⟨-, z, -⟩
  · rw [z] at hp
    exact absurd hp (by decide)
  · rw [z] at hp
    exact absurd hp (by decide)
  · rw [h.2.1.2.1, z]
    rfl
theorem idle_c0 {n c m : Nat} {v : XS} (h : zX zE n c m v) (hp : xp v = 0) : xc v = 0 ∧ xShRows v 40 = 0 := by
  rcases h.2.2.2 with ⟨-, z, q⟩ | ⟨z, -⟩ | ⟨z, -⟩
  · refine ⟨?_, rows_none fun j hj => (q j hj).1⟩
    rw [h.2.1.2.1, z]
    rfl
  · rw [z] at hp
    exact absurd hp (by decide)
  · rw [z] at hp
    exact absurd hp (by decide)
theorem lC_cut {v : XS} {c : Nat} (h : xc v = nI c) : lK 2 (xt v) (xq v) (xk v) (xl v) (xm v) 0 = lC (xUp (xPlay v c) 2) := by
  obtain ⟨-, -, -, e3, e4, e5, e6, e7⟩ := play_o v c
  have e8 : xc (xPlay v c) = 0 := by rw [play_c h (Nat.le_refl c), Nat.sub_self]; rfl
  unfold lC
  show _ = lK 2 (xt (xPlay v c)) (xq (xPlay v c)) (xk (xPlay v c)) (xl (xPlay v c)) (xm (xPlay v c)) (xc (xPlay v c))
  rw [e3, e4, e5, e6, e7, e8]
theorem lC_sta {v : XS} (al pa : Int32) (h : xc v = 0) : lK 1 al pa (xk v) (xl v) 0 0 = lC (xStart v al pa) := by
  unfold lC
  show _ = lK 1 al pa (xk v) (xl v) 0 (xc v)
  rw [h]

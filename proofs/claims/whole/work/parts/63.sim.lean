/-! MINE: the answers are the same. -/
theorem kSum_c {f g : Nat → Int32} : ∀ {n : Nat}, (∀ i, i < n → f i = g i) → kSum f n = kSum g n
  | 0, _ => rfl
  | n + 1, h => by
    show kSum f n + f n = kSum g n + g n
    rw [kSum_c (fun i hi => h i (by omega)), h n (Nat.lt_succ_self n)]
theorem A_rows {n : Nat} {v : XS} {w : MS} (h : SR n v w) : xRows v 40 = mRows w 40 := kSum_c fun i hi => by
  obtain ⟨g1, g2, -⟩ := h.1.2.1 i hi
  rw [r_seen h.1.1 hi g1 g2]
theorem A_shd {n : Nat} {v : XS} {w : MS} (h : SR n v w) : xShRows v 40 = mShd w 40 := kSum_c fun i hi => by
  obtain ⟨-, g2, -⟩ := h.1.2.1 i hi
  rw [r_sh hi g2]
theorem A_notes {n : Nat} {v : XS} {w : MS} (h : SR n v w) : xc v = mc w := by
  obtain ⟨⟨h1, h2, c, c1, c2, c3, c4⟩, -⟩ := h
  rw [c2, c3]
theorem A_phase {n : Nat} {v : XS} {w : MS} (h : SR n v w) : xp v = mp w := h.1.1.1
theorem A_mark {n : Nat} {v : XS} {w : MS} (h : SR n v w) : (if xp v = 0 then -1 else xm v) = (if mp w = 0 then -1 else mm w) := by
  rw [← h.1.1.1]
  by_cases e : xp v = 0
  · rw [if_pos e, if_pos e]
  · rw [if_neg e, if_neg e]
    obtain ⟨-, ⟨a, b, m1, m2, m3, m4, m5⟩, -⟩ := h
    rw [m3, m4, m5 e]
theorem k3i' {j : Nat} (hj : j < 40) {c : Nat} (hc : c < 3) : (3 * nI j + nI c).toNatClampNeg = 3 * j + c := by
  rw [show (3 : Int32) = nI 3 from rfl, pk_mul, nI_add, nI_clamp (by omega)]
theorem r_beh {v : XS} {w : MS} (hC : RC v w) {j : Nat} (hj : j < 40) (h : RO v w j) (h2 : RS v w j) : xBeh v (nI j) = !mEven w (nI j) := by
  unfold xBeh mEven mI3 mI2 mI1 mE0 mEc
  rw [r_bro hC hj h, r_bro hC hj h, r_bro hC hj h, (k3i hj).1, (k3i hj).2.1, (k3i hj).2.2]
  have hm := r_brom hC hj h 0
  cases hd : mDue w (nI j) with
  | false =>
    rw [if_neg (by decide), if_neg (by decide), if_neg (by decide), if_neg (by decide), kx hj]
    show (!decide (xC0 v j = -1) || (!decide (xC1 v j = -1) || !decide (xC2 v j = -1))) = _
    rcases h2 with ⟨q1, q2, q3, q4⟩ | ⟨q1, q2, -⟩
    · rw [q1, q2, q3, q4]
      rfl
    · rw [q1, decide_eq_false q2]
      rfl
  | true =>
    have hm := hm hd
    rw [if_pos rfl, if_pos rfl, if_pos rfl, if_pos rfl]
    rw [kx hj] at hm ⊢
    show (!decide (xC0 v j = _) || (!decide (xC1 v j = _) || !decide (xC2 v j = _))) = _
    rcases h2 with ⟨q1, q2, q3, q4⟩ | ⟨q1, q2, q3, q4, q5⟩
    · rw [q1, q2, decide_eq_false (fun e => hm e.symm)]
      rfl
    · rw [q1, q3, q4, q5]
      unfold kBoth
      cases decide (mS w (3 * j) = mAlt w (mO w j) 0) <;> cases decide (mS w (3 * j + 1) = mAlt w (mO w j) 1) <;> cases decide (mS w (3 * j + 2) = mAlt w (mO w j) 2) <;> rfl
theorem A_behind {n : Nat} {v : XS} {w : MS} (h : SR n v w) : (if xp v = 0 then 0 else xBehinds v 40) = (if mp w = 0 then 0 else mBehinds w 40) := by
  rw [← h.1.1.1]
  by_cases e : xp v = 0
  · rw [if_pos e, if_pos e]
  · rw [if_neg e, if_neg e]
    refine kSum_c fun i hi => ?_
    obtain ⟨g1, g2, -⟩ := h.1.2.1 i hi
    rw [r_beh h.1.1 hi g1 g2]
theorem A_delete {n : Nat} {v : XS} {w : MS} (h : SR n v w) (k : Int32) (e : xfDelete v k = 0) : xRow v k = (if mfDelete w k = 0 then mO w k.toNatClampNeg else 0) := by
  rw [if_pos (fz (f_delete h k) e)]
  unfold xfDelete at e
  cases hk : xWithin k 0 39 with
  | false => rw [hk] at e; simp at e
  | true =>
    cases hs : xSeen v k with
    | false => rw [hk, hs] at e; simp at e
    | true =>
      obtain ⟨i, hi, rfl⟩ := w39 hk
      unfold xSeen at hs
      exact r_row hi (h.1.2.1 i hi).1 (Bool.and_eq_true_iff.mp hs).1
theorem A_cut {n : Nat} {v : XS} {w : MS} (h : SR n v w) (most : Int32) (e : xfCut v most = 0) : xc v = (if mfCut w most = 0 then mc w else 0) := by
  rw [if_pos (fz (f_cut h most) e)]
  exact A_notes h
theorem A_finish {n : Nat} {v : XS} {w : MS} (h : SR n v w) (e : xfUndo v = 0) : xRemN v 40 = (if mfUndo w = 0 then mRemN (mUz w (mfUndo w)) 40 else 0) := by
  rw [if_pos (fz (f_undo h) e)]
  exact (SQ_rem (SQ_mUz h.1 (mfUndo w)) 40 (Nat.le_refl _)).2.1
theorem A_give {n : Nat} {v : XS} {w : MS} (h : SR n v w) (e : xfGive v = 0) : xShRows v 40 = (if mfGive w = 0 then mShd (mUz w (mfGive w)) 40 else 0) := by
  rw [if_pos (fz (f_give h) e)]
  exact A_shd (SR_mUz h _)
theorem A_row {n : Nat} {v : XS} {w : MS} (h : SR n v w) (k : Int32) (e : xfKey k = 0) : (if xSeen v k then xRow v k else -1) = (if mfKey k = 0 then (if mSeen w k then mO w k.toNatClampNeg else -1) else 0) := by
  rw [if_pos (fz (f_key k) e)]
  unfold xfKey at e
  cases hk : xWithin k 0 39 with
  | false => rw [hk] at e; simp at e
  | true =>
    rw [← f_seen h hk]
    cases hs : xSeen v k with
    | false => rw [if_neg (by decide), if_neg (by decide)]
    | true =>
      rw [if_pos rfl, if_pos rfl]
      obtain ⟨i, hi, rfl⟩ := w39 hk
      unfold xSeen at hs
      exact r_row hi (h.1.2.1 i hi).1 (Bool.and_eq_true_iff.mp hs).1
theorem w2 {c : Int32} (h : xWithin c 0 2 = true) : ∃ i : Nat, i < 3 ∧ c = nI i := vp_in_of (xCol_in h) (by decide)
theorem r_col {v : XS} {w : MS} {j : Nat} (hj : j < 40) (h : RS v w j) {c : Nat} (hc : c < 3) : xC v c j = if mH w j = 0 then -1 else mS w (3 * j + c) := by
  rcases h with ⟨q1, q2, q3, q4⟩ | ⟨q1, q2, q3, q4, q5⟩
  · rw [q1, if_pos rfl]
    rcases (show c = 0 ∨ c = 1 ∨ c = 2 by omega) with rfl | rfl | rfl
    · exact q2
    · exact q3
    · exact q4
  · rw [q1, if_neg (by decide)]
    rcases (show c = 0 ∨ c = 1 ∨ c = 2 by omega) with rfl | rfl | rfl
    · exact q3
    · exact q4
    · exact q5
theorem A_shadow {n : Nat} {v : XS} {w : MS} (h : SR n v w) (k c : Int32) (e : xfShadow k c = 0) : xC v c.toNatClampNeg k.toNatClampNeg = (if mfShadow k c = 0 then (if mH w k.toNatClampNeg = 0 then -1 else mS w (3 * k + c).toNatClampNeg) else 0) := by
  rw [if_pos (fz (f_shadow k c) e)]
  unfold xfShadow at e
  cases hk : (xWithin k 0 39 && xWithin c 0 2) with
  | false => rw [hk] at e; simp at e
  | true =>
    obtain ⟨i, hi, rfl⟩ := w39 (Bool.and_eq_true_iff.mp hk).1
    obtain ⟨j, hj, rfl⟩ := w2 (Bool.and_eq_true_iff.mp hk).2
    rw [k3i' hi hj, kx hi, kx (show j < 40 by omega)]
    exact r_col hi (h.1.2.1 i hi).2.1 hj
theorem A_sum {n : Nat} {v : XS} {w : MS} (h : SR n v w) (c : Int32) (e : xfCol c = 0) : xSum v c 40 = (if mfCol c = 0 then mSum w c 40 else 0) := by
  rw [if_pos (fz (f_col c) e)]
  unfold xfCol at e
  cases hk : xWithin c 0 2 with
  | false => rw [hk] at e; simp at e
  | true =>
    obtain ⟨j, hj, rfl⟩ := w2 hk
    refine kSum_c fun i hi => ?_
    obtain ⟨g1, g2, -⟩ := h.1.2.1 i hi
    unfold mSumI
    rw [r_sh hi g2, k3i' hi hj, kx hi, kx (show j < 40 by omega), r_col hi g2 hj]
    by_cases q : mH w i = 0
    · rw [if_pos q, if_neg (by simp [q]), if_pos q]
    · rw [if_neg q, if_pos (by simp [q])]
      rw [if_neg q]
theorem A_sumAt {n : Nat} {v : XS} {w : MS} (h : SR n v w) (c : Int32) (e : xfCol c = 0) : (if xp v = 0 then 0 else xSumAt v c 40) = (if mfCol c = 0 then (if mp w = 0 then 0 else mSumAt w c 40) else 0) := by
  rw [if_pos (fz (f_col c) e), ← h.1.1.1]
  by_cases q : xp v = 0
  · rw [if_pos q, if_pos q]
  · rw [if_neg q, if_neg q]
    refine kSum_c fun i hi => ?_
    obtain ⟨g1, g2, -⟩ := h.1.2.1 i hi
    have hm := r_brom h.1.1 hi g1 c
    unfold mSumAI
    rw [r_bro h.1.1 hi g1]
    cases hd : mDue w (nI i) with
    | false => rfl
    | true =>
      rw [if_pos rfl, if_pos rfl, if_neg (hm hd)]
theorem A_refused {n : Nat} {v : XS} {w : MS} (h : SR n v w) (k : Int32) (e : xfKey k = 0) : (if xR v k.toNatClampNeg = 0 then (0 : Int64) else 1) = (if b2i (decide (mfKey k = 0) && !decide (mF w k.toNatClampNeg = 0)) = 0 then 0 else 1) := by
  rw [decide_eq_true (fz (f_key k) e)]
  unfold xfKey at e
  cases hk : xWithin k 0 39 with
  | false => rw [hk] at e; simp at e
  | true =>
    obtain ⟨i, hi, rfl⟩ := w39 hk
    have g3 : xR v i = mF w i := (h.1.2.1 i hi).2.2
    rw [kx hi, g3]
    by_cases q : mF w i = 0
    · rw [if_pos q, if_pos (by simp [q]; rfl)]
    · rw [if_neg q, if_neg (by simp [q, b2i])]
theorem A_z {n : Nat} {v : XS} {w : MS} (h : SR n v w) (j : Nat) : narrow .boolean (.int (xR v j)) = .int (xR v j) := by
  rcases h.1.1.2.2.2.2.2.2.2 j with e | e <;> rw [e] <;> rfl
/-- the first states -/
def kF1 : Nat → Int32 := kFill 40 (-1) (fun _ => 0)
theorem xNew_is : xNew = (kF1, fun _ => 0, kF1, kF1, kF1, fun _ => 0, fun _ => 0, 0, 0, 0, 0, 0, 8, 10) := by
  unfold xNew
  rw [xClr_is]
  rfl
theorem mNew_is : mNew = (kF1, fun _ => 0, fun _ => 0, fun _ => 0, fun _ => 0, 0, 0, 0, 8, 10, 0, 0, 0) := rfl
theorem kF1_in {j : Nat} (h : j < 40) : kF1 j = -1 := if_pos h
theorem SR_new : SR 0 xNew mNew := by
  rw [xNew_is, mNew_is]
  exact ⟨⟨⟨rfl, rfl, rfl, rfl, rfl, ⟨0, by decide, rfl⟩, ⟨8, by decide, by decide, rfl⟩, fun j => Or.inl rfl⟩, fun j hj => ⟨Or.inl ⟨kF1_in hj, kF1_in hj⟩, Or.inl ⟨rfl, kF1_in hj, kF1_in hj, kF1_in hj⟩, rfl⟩, 0, Nat.le_refl _, rfl, rfl, fun j hj => absurd hj (Nat.not_lt_zero j)⟩, ⟨0, 0, by decide, by decide, rfl, rfl, fun _ => rfl⟩, fun _ => ⟨rfl, fun j hj => ⟨kF1_in hj, kF1_in hj, kF1_in hj, rfl⟩⟩⟩

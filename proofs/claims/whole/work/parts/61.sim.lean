/-! MINE: every call keeps what is common. -/
theorem SR_mUz {n : Nat} {v : XS} {w : MS} (h : SR n v w) (z : Int32) : SR n v (mUz w z) := h
theorem SQ_mUz {n : Nat} {v : XS} {w : MS} (h : SQ n v w) (z : Int32) : SQ n v (mUz w z) := h
theorem SR_up {n n' : Nat} {v : XS} {w : MS} (h : SR n v w) (hn : n ≤ n') : SR n' v w := by
  obtain ⟨⟨h1, h2, c, c1, c2, c3, c4⟩, h3⟩ := h
  exact ⟨⟨h1, h2, c, Nat.le_trans c1 hn, c2, c3, c4⟩, h3⟩
theorem SQ_put {n : Nat} {v : XS} {w : MS} (h : SQ n v w) {i : Nat} (hi : i < 40) (a b row : Int32) (hr : (a = -1 ∧ row = -1) ∨ ∃ x y : Nat, x ≤ 999 ∧ y ≤ 999 ∧ a = nI x ∧ b = nI y ∧ row = nI (1000 * x + y)) : SQ n (xPut v (nI i) a b) (mUO w (upd (mO w) (nI i).toNatClampNeg row)) := by
  obtain ⟨h1, h2, h3⟩ := h
  refine ⟨h1, fun j hj => ?_, h3⟩
  obtain ⟨g1, g2, g3⟩ := h2 j hj
  refine ⟨?_, g2, g3⟩
  show (upd (xA v) (nI i).toNatClampNeg a j = -1 ∧ upd (mO w) (nI i).toNatClampNeg row j = -1) ∨ ∃ x y : Nat, x ≤ 999 ∧ y ≤ 999 ∧ upd (xA v) (nI i).toNatClampNeg a j = nI x ∧ upd (xB v) (nI i).toNatClampNeg b j = nI y ∧ upd (mO w) (nI i).toNatClampNeg row j = nI (1000 * x + y)
  rw [kx hi]
  by_cases e : j = i
  · subst e
    rw [pk_us, pk_us, pk_us]
    exact hr
  · rw [pk_un e, pk_un e, pk_un e]
    exact g1
theorem SR_put {n : Nat} {v : XS} {w : MS} (h : SR n v w) {i : Nat} (hi : i < 40) (a b row : Int32) (hr : (a = -1 ∧ row = -1) ∨ ∃ x y : Nat, x ≤ 999 ∧ y ≤ 999 ∧ a = nI x ∧ b = nI y ∧ row = nI (1000 * x + y)) : SR n (xPut v (nI i) a b) (mUO w (upd (mO w) (nI i).toNatClampNeg row)) := ⟨SQ_put h.1 hi a b row hr, h.2⟩
theorem SR_note {n : Nat} {v : XS} {w : MS} (h : SR n v w) (hn : n < 1024) (hp : xp v ≠ 0) {k : Int32} (hk : vp_in k 40) : SR (n + 1) (xNote v k) (mNote w k) := by
  obtain ⟨⟨h1, h2, c, c1, c2, c3, c4⟩, h3, h4⟩ := h
  unfold xNote
  rw [if_neg (by rw [c2]; exact nI_ge (a := c) (b := 1024) (by omega) (by decide))]
  refine ⟨⟨h1, h2, c + 1, by omega, ?_, ?_, fun j hj => ?_⟩, h3, fun e => absurd e hp⟩
  · show xc v + 1 = nI (c + 1)
    rw [c2, nI_1]
  · show mc w + 1 = nI (c + 1)
    rw [c3, nI_1]
  · show upd (xN v) (xc v).toNatClampNeg k j = upd (mN w) (mc w).toNatClampNeg k j ∧ vp_in (upd (xN v) (xc v).toNatClampNeg k j) 40
    rw [c2, c3, nI_clamp (by omega)]
    by_cases e : j = c
    · subst e
      rw [pk_us, pk_us]
      exact ⟨rfl, hk⟩
    · rw [pk_un e, pk_un e]
      exact c4 j (by omega)
theorem SR_follow {n : Nat} {v : XS} {w : MS} (h : SR n v w) (hn : n < 1024) {k : Int32} (hk : vp_in k 40) : SR (n + 1) (xFollow v k) (mWrote w k) := by
  unfold xFollow mWrote
  rw [← h.1.1.1]
  by_cases h1 : xp v = 1
  · rw [if_pos h1, if_pos h1]
    exact SR_note h hn (by rw [h1]; decide) hk
  · rw [if_neg h1, if_neg h1]
    by_cases h2 : xp v = 2
    · rw [if_pos h2, if_pos h2]
      obtain ⟨i, hi, rfl⟩ := vp_in_of hk (by decide)
      exact SR_up (SR_bring h (by rw [h2]; decide) hi) (Nat.le_succ n)
    · rw [if_neg h2, if_neg h2]
      exact SR_up h (Nat.le_succ n)
theorem w999 {a : Int32} (h : xWithin a 0 999 = true) : ∃ x : Nat, x ≤ 999 ∧ a = nI x := by
  obtain ⟨x, hx, e⟩ := vp_in_of (xWithin_in (n := 999) rfl h) (by decide)
  exact ⟨x, by omega, e⟩
theorem w39 {k : Int32} (h : xWithin k 0 39 = true) : ∃ i : Nat, i < 40 ∧ k = nI i := vp_in_of (xKey_in h) (by decide)
theorem r_cbw {v : XS} {w : MS} (hC : RC v w) (a b : Int32) : xCbw v a b = !(!(xWithin a 0 999 && xWithin b 0 999) || (decide (mp w = 2) && !mSuits w (1000 * a + b))) := by
  unfold xCbw
  rw [hC.1]
  cases ha : xWithin a 0 999 with
  | false => rfl
  | true =>
    cases hb : xWithin b 0 999 with
    | false => rfl
    | true =>
      obtain ⟨x, hx, rfl⟩ := w999 ha
      obtain ⟨y, hy, rfl⟩ := w999 hb
      rw [row_n, r_fits hC hx hy]
      cases decide (mp w = 2) <;> cases mSuits w (nI (1000 * x + y)) <;> rfl
theorem f_seen {n : Nat} {v : XS} {w : MS} (h : SR n v w) {k : Int32} (hk : xWithin k 0 39 = true) : xSeen v k = mSeen w k := by
  obtain ⟨i, hi, rfl⟩ := w39 hk
  obtain ⟨g1, g2, -⟩ := h.1.2.1 i hi
  exact r_seen h.1.1 hi g1 g2
theorem f_insert {n : Nat} {v : XS} {w : MS} (h : SR n v w) (k a b : Int32) : mfInsert w k a b = nI (xfInsert v k a b) := by
  unfold mfInsert xfInsert mFault
  rw [r_cbw h.1.1]
  cases hk : xWithin k 0 39 with
  | false => rfl
  | true =>
    rw [f_seen h hk]
    cases (!(xWithin a 0 999 && xWithin b 0 999) || decide (mp w = 2) && !mSuits w (1000 * a + b)) with
    | true => rfl
    | false => cases mSeen w k <;> rfl
theorem f_update {n : Nat} {v : XS} {w : MS} (h : SR n v w) (k a b : Int32) : mfUpdate w k a b = nI (xfUpdate v k a b) := by
  unfold mfUpdate xfUpdate mFault
  rw [r_cbw h.1.1]
  cases hk : xWithin k 0 39 with
  | false => rfl
  | true =>
    rw [f_seen h hk]
    cases (!(xWithin a 0 999 && xWithin b 0 999) || decide (mp w = 2) && !mSuits w (1000 * a + b)) with
    | true => rfl
    | false => cases mSeen w k <;> rfl
theorem f_delete {n : Nat} {v : XS} {w : MS} (h : SR n v w) (k : Int32) : mfDelete w k = nI (xfDelete v k) := by
  unfold mfDelete xfDelete
  cases hk : xWithin k 0 39 with
  | false => rfl
  | true =>
    rw [f_seen h hk]
    cases mSeen w k <;> rfl
theorem f_rekey {n : Nat} {v : XS} {w : MS} (h : SR n v w) (k t : Int32) : mfRekey w k t = nI (xfRekey v k t) := by
  unfold mfRekey xfRekey
  cases hk : xWithin k 0 39 with
  | false => rfl
  | true =>
    cases ht : xWithin t 0 39 with
    | false => rfl
    | true =>
      rw [f_seen h hk, f_seen h ht]
      by_cases e : k = t
      · simp [kBoth, e]
        rfl
      · cases mSeen w k <;> cases mSeen w t <;> simp [kBoth, e] <;> rfl
theorem f_start {n : Nat} {v : XS} {w : MS} (h : SR n v w) (al pa : Int32) : mfStart w al pa = nI (xfStart v al pa) := by
  unfold mfStart xfStart
  rw [h.1.1.1]
  cases (xWithin al 0 2) <;> cases (xWithin pa 0 999)
  · rfl
  · rfl
  · rfl
  · by_cases e : mp w = 0
    · simp [kBoth, e]
      rfl
    · simp [kBoth, e]
      rfl
theorem f_pace (ch lag : Int32) : mfPace ch lag = nI (xfPace ch lag) := by
  unfold mfPace xfPace
  cases (xWithin ch 1 40 && xWithin lag 0 100) <;> rfl
theorem f_tick {n : Nat} {v : XS} {w : MS} (h : SR n v w) (lag : Int32) : mfTick w lag = nI (xfTick v lag) := by
  unfold mfTick xfTick
  rw [h.1.1.1]
  cases (xWithin lag 0 1000)
  · rfl
  · by_cases e : mp w = 1
    · simp [e]
      rfl
    · simp [e]
      rfl
theorem f_cut {n : Nat} {v : XS} {w : MS} (h : SR n v w) (most : Int32) : mfCut w most = nI (xfCut v most) := by
  unfold mfCut xfCut
  obtain ⟨⟨h1, h2, c, c1, c2, c3, c4⟩, ⟨a, b, m1, m2, m3, m4, m5⟩, -⟩ := h
  rw [← h1.1, c2, c3, m3, m4]
  cases (xWithin most 0 1000)
  · rfl
  · by_cases e : xp v = 1
    · rw [m5 (by rw [e]; decide)]
      cases (!decide (xp v = 1) || (decide (nI b < 40) || !decide (nI c ≤ most))) <;> rfl
    · simp [e]
      rfl
theorem f_undo {n : Nat} {v : XS} {w : MS} (h : SR n v w) : mfUndo w = nI (xfUndo v) := by
  unfold mfUndo xfUndo
  rw [h.1.1.1]
  by_cases e : mp w = 2
  · rw [if_pos e, if_pos e]; rfl
  · rw [if_neg e, if_neg e]; rfl
theorem f_give {n : Nat} {v : XS} {w : MS} (h : SR n v w) : mfGive w = nI (xfGive v) := by
  unfold mfGive xfGive
  rw [h.1.1.1]
  by_cases e : mp w = 1
  · rw [if_pos e, if_pos e]; rfl
  · rw [if_neg e, if_neg e]; rfl
theorem f_key (k : Int32) : mfKey k = nI (xfKey k) := by
  unfold mfKey xfKey
  cases xWithin k 0 39 <;> rfl
theorem f_col (k : Int32) : mfCol k = nI (xfCol k) := by
  unfold mfCol xfCol
  cases xWithin k 0 2 <;> rfl
theorem f_shadow (k c : Int32) : mfShadow k c = nI (xfShadow k c) := by
  unfold mfShadow xfShadow
  cases (xWithin k 0 39 && xWithin c 0 2) <;> rfl
/-- faults are small, so that 0 is 0 -/
theorem fz {x : Nat} {y : Int32} (h : y = nI x) (hx : x = 0) : y = 0 := by rw [h, hx]; rfl
theorem fnz {x : Nat} {y : Int32} (h : y = nI x) (hx : ¬ x = 0) (hs : x < 5) : ¬ y = 0 := by
  rw [h]
  exact nI_ne0 (by omega) (by omega)
theorem xfInsert_s (v : XS) (k a b : Int32) : xfInsert v k a b < 5 := by unfold xfInsert; repeat' split
                                                                         all_goals decide
theorem xfUpdate_s (v : XS) (k a b : Int32) : xfUpdate v k a b < 5 := by unfold xfUpdate; repeat' split
                                                                         all_goals decide
theorem xfDelete_s (v : XS) (k : Int32) : xfDelete v k < 5 := by unfold xfDelete; repeat' split
                                                                 all_goals decide
theorem xfRekey_s (v : XS) (k t : Int32) : xfRekey v k t < 5 := by unfold xfRekey; repeat' split
                                                                   all_goals decide
theorem xfStart_s (v : XS) (k t : Int32) : xfStart v k t < 5 := by unfold xfStart; repeat' split
                                                                   all_goals decide
theorem xfPace_s (k t : Int32) : xfPace k t < 5 := by unfold xfPace; repeat' split
                                                      all_goals decide
theorem xfTick_s (v : XS) (k : Int32) : xfTick v k < 5 := by unfold xfTick; repeat' split
                                                             all_goals decide
theorem xfCut_s (v : XS) (k : Int32) : xfCut v k < 5 := by unfold xfCut; repeat' split
                                                           all_goals decide
theorem xfUndo_s (v : XS) : xfUndo v < 5 := by unfold xfUndo; repeat' split
                                               all_goals decide
theorem xfGive_s (v : XS) : xfGive v < 5 := by unfold xfGive; repeat' split
                                               all_goals decide
theorem xfKey_s (k : Int32) : xfKey k < 5 := by unfold xfKey; repeat' split
                                                all_goals decide
theorem xfCol_s (k : Int32) : xfCol k < 5 := by unfold xfCol; repeat' split
                                                all_goals decide
theorem xfShadow_s (k c : Int32) : xfShadow k c < 5 := by unfold xfShadow; repeat' split
                                                          all_goals decide
theorem SR_insert {n : Nat} {v : XS} {w : MS} (h : SR n v w) (hn : n < 1024) (k a b : Int32) : SR (n + 1) (kSt (xfInsert v k a b) v (xFollow (xPut v k a b) k)) (mInsert w k a b) := by
  have hf := f_insert h k a b
  unfold kSt mInsert
  by_cases e : xfInsert v k a b = 0
  · rw [if_pos e, if_pos (fz hf e)]
    unfold xfInsert at e
    cases hk : xWithin k 0 39 with
    | false => rw [hk] at e; simp at e
    | true =>
      cases hc : xCbw v a b with
      | false => rw [hk, hc] at e; simp at e
      | true =>
        unfold xCbw at hc
        simp only [Bool.and_eq_true] at hc
        obtain ⟨x, hx, rfl⟩ := w999 hc.1
        obtain ⟨y, hy, rfl⟩ := w999 hc.2.1
        obtain ⟨i, hi, rfl⟩ := w39 hk
        exact SR_follow (SR_put (SR_mUz h _) hi _ _ _ (Or.inr ⟨x, y, hx, hy, rfl, rfl, row_n x y⟩)) hn (xKey_in hk)
  · rw [if_neg e, if_neg (fnz hf e (xfInsert_s v k a b))]
    exact SR_up (SR_mUz h _) (Nat.le_succ n)
theorem SR_update {n : Nat} {v : XS} {w : MS} (h : SR n v w) (hn : n < 1024) (k a b : Int32) : SR (n + 1) (kSt (xfUpdate v k a b) v (xFollow (xPut v k a b) k)) (mUpdate w k a b) := by
  have hf := f_update h k a b
  unfold kSt mUpdate
  by_cases e : xfUpdate v k a b = 0
  · rw [if_pos e, if_pos (fz hf e)]
    unfold xfUpdate at e
    cases hk : xWithin k 0 39 with
    | false => rw [hk] at e; simp at e
    | true =>
      cases hc : xCbw v a b with
      | false => rw [hk, hc] at e; simp at e
      | true =>
        unfold xCbw at hc
        simp only [Bool.and_eq_true] at hc
        obtain ⟨x, hx, rfl⟩ := w999 hc.1
        obtain ⟨y, hy, rfl⟩ := w999 hc.2.1
        obtain ⟨i, hi, rfl⟩ := w39 hk
        exact SR_follow (SR_put (SR_mUz h _) hi _ _ _ (Or.inr ⟨x, y, hx, hy, rfl, rfl, row_n x y⟩)) hn (xKey_in hk)
  · rw [if_neg e, if_neg (fnz hf e (xfUpdate_s v k a b))]
    exact SR_up (SR_mUz h _) (Nat.le_succ n)
theorem SR_delete {n : Nat} {v : XS} {w : MS} (h : SR n v w) (hn : n < 1024) (k : Int32) : SR (n + 1) (kSt (xfDelete v k) v (xFollow (xPut v k (-1) (-1)) k)) (mDelete w k) := by
  have hf := f_delete h k
  unfold kSt mDelete
  by_cases e : xfDelete v k = 0
  · rw [if_pos e, if_pos (fz hf e)]
    unfold xfDelete at e
    cases hk : xWithin k 0 39 with
    | false => rw [hk] at e; simp at e
    | true =>
      obtain ⟨i, hi, rfl⟩ := w39 hk
      exact SR_follow (SR_put (SR_mUz h _) hi _ _ _ (Or.inl ⟨rfl, rfl⟩)) hn (xKey_in hk)
  · rw [if_neg e, if_neg (fnz hf e (xfDelete_s v k))]
    exact SR_up (SR_mUz h _) (Nat.le_succ n)
theorem kMin_m {a b : Nat} (ha : a < 40) (hb : b < 40) : kMin (nI a) (nI b) = mMin (nI a) (nI b) := by
  unfold kMin mMin
  by_cases h : b < a
  · rw [if_pos ((nI_ltI (by omega) (by omega)).mpr h), if_pos ((nI_leI (by omega) (by omega)).mpr (by omega))]
  · rw [if_neg (fun q => h ((nI_ltI (by omega) (by omega)).mp q))]
    by_cases e : a = b
    · subst e
      rw [if_pos (Int32.le_refl _)]
    · rw [if_neg (fun q => by have := (nI_leI (by omega) (by omega)).mp q; omega)]
theorem kMax_m {a b : Nat} (ha : a < 40) (hb : b < 40) : kMax (nI a) (nI b) = mMax (nI a) (nI b) := by
  unfold kMax mMax
  by_cases h : a < b
  · rw [if_pos ((nI_ltI (by omega) (by omega)).mpr h), if_neg (nI_ge h (by omega))]
  · rw [if_neg (fun q => h ((nI_ltI (by omega) (by omega)).mp q)), if_pos ((nI_leI (by omega) (by omega)).mpr (by omega))]
theorem SR_rekey {n : Nat} {v : XS} {w : MS} (h : SR n v w) (hn : n + 1 < 1024) (k t : Int32) : SR (n + 2) (kSt (xfRekey v k t) v (xRekey v k t)) (mRekey w k t) := by
  have hf := f_rekey h k t
  unfold kSt mRekey
  by_cases e : xfRekey v k t = 0
  · rw [if_pos e, if_pos (fz hf e)]
    unfold xfRekey at e
    cases hk : xWithin k 0 39 with
    | false => rw [hk] at e; simp at e
    | true =>
      cases ht : xWithin t 0 39 with
      | false => rw [hk, ht] at e; simp at e
      | true =>
        cases hs : xSeen v k with
        | false =>
          rw [hk, ht, hs] at e
          by_cases e2 : k = t
          · simp [e2] at e
          · simp [e2] at e
        | true =>
          obtain ⟨i, hi, rfl⟩ := w39 hk
          obtain ⟨j, hj, rfl⟩ := w39 ht
          have ho : xOld v (nI i) = true := by
            unfold xSeen at hs
            exact (Bool.and_eq_true_iff.mp hs).1
          have g1 := (h.1.2.1 i hi).1
          unfold xOld at ho
          rw [kx hi] at ho
          have hr : ∃ x y : Nat, x ≤ 999 ∧ y ≤ 999 ∧ xA v (nI i).toNatClampNeg = nI x ∧ xB v (nI i).toNatClampNeg = nI y ∧ mO w (nI i).toNatClampNeg = nI (1000 * x + y) := by
            rw [kx hi]
            rcases g1 with ⟨q1, q2⟩ | q
            · rw [q1] at ho; simp at ho
            · exact q
          unfold xRekey
          rw [kMin_m hi hj, kMax_m hi hj]
          refine SR_follow (SR_follow ?_ (by omega) (mMin_in (xKey_in hk) (xKey_in ht))) hn (mMax_in (xKey_in hk) (xKey_in ht))
          exact SR_put (SR_put (SR_mUz h _) hj _ _ _ (Or.inr hr)) hi (-1) (-1) (-1) (Or.inl ⟨rfl, rfl⟩)
  · rw [if_neg e, if_neg (fnz hf e (xfRekey_s v k t))]
    exact SR_up (SR_mUz h _) (by omega)
theorem w40 {c : Int32} (h : xWithin c 1 40 = true) : ∃ x : Nat, 1 ≤ x ∧ x ≤ 40 ∧ c = nI x := by
  simp only [xWithin, Bool.and_eq_true, Bool.not_eq_true', decide_eq_false_iff_not] at h
  rw [Int32.lt_iff_toInt_lt, Int32.lt_iff_toInt_lt] at h
  have e1 : (1 : Int32).toInt = 1 := rfl
  have e2 : (40 : Int32).toInt = 40 := rfl
  obtain ⟨x, hx, e⟩ := vp_in_of (x := c) (n := 41) (by rw [vp_in_iff]; omega) (by decide)
  refine ⟨x, ?_, by omega, e⟩
  rw [e, nI_toInt (by omega)] at h
  omega
theorem SR_pace {n : Nat} {v : XS} {w : MS} (h : SR n v w) (ch lag : Int32) : SR n (kSt (xfPace ch lag) v (xUl (xUk v ch) lag)) (mPace w ch lag) := by
  have hf := f_pace ch lag
  unfold kSt mPace
  by_cases e : xfPace ch lag = 0
  · rw [if_pos e, if_pos (fz hf e)]
    unfold xfPace at e
    cases hk : xWithin ch 1 40 with
    | false => rw [hk] at e; simp at e
    | true =>
      obtain ⟨x, x1, x2, x3⟩ := w40 hk
      obtain ⟨⟨⟨c1, c2, c3, c4, c5, c6, c7, c8⟩, h2, h3⟩, h4, h5⟩ := h
      exact ⟨⟨⟨c1, c2, c3, rfl, rfl, c6, ⟨x, x1, x2, x3⟩, c8⟩, h2, h3⟩, h4, h5⟩
  · rw [if_neg e, if_neg (fnz hf e (xfPace_s ch lag))]
    exact SR_mUz h _

/-! MINE: what each method of the reference does to its state. -/
def mRa (row : Int32) : Int32 := row / 1000
def mRb (row : Int32) : Int32 := row - row / 1000 * 1000
def mSuits (v : MS) (row : Int32) : Bool := !decide (mt v = 1) || !decide (mq v < mRb row)
def mAlt (v : MS) (row c : Int32) : Int32 :=
  if mt v = 0 then (if c = 0 then mRa row / 100 else if c = 1 then mRa row - mRa row / 100 * 100 else mRb row)
  else if mt v = 1 then (if c = 0 then mRa row else if c = 1 then mRb row else 0)
  else (if c = 0 then mRa row else if c = 1 then mRb row * mq v else xDig (mRb row))
def mDue (v : MS) (k : Int32) : Bool := !decide (mO v k.toNatClampNeg = -1) && mSuits v (mO v k.toNatClampNeg)
def mSeen (v : MS) (k : Int32) : Bool := !decide (mO v k.toNatClampNeg = -1) && (!decide (mp v = 2) || !decide (mH v k.toNatClampNeg = 0))
def mB1 (v : MS) (k : Int32) : MS := mUH v (upd (mH v) k.toNatClampNeg (vp_nar .boolean (b2i (mDue v k))))
def mOutB (v : MS) (k : Int32) : Bool := !decide (mO v k.toNatClampNeg = -1) && decide (mH v k.toNatClampNeg = 0)
def mB2 (v : MS) (k : Int32) : MS := mUF (mB1 v k) (upd (mF (mB1 v k)) k.toNatClampNeg (vp_nar .boolean (b2i (mOutB (mB1 v k) k))))
def mSt (v : MS) (k c : Int32) : MS := mUS v (upd (mS v) (3 * k + c).toNatClampNeg (mAlt v (mO v k.toNatClampNeg) c))
def mS3 (v : MS) (k : Int32) : MS := mSt (mSt (mSt v k 0) k 1) k 2
def mBrings (v : MS) (k : Int32) : MS := if mH (mB2 v k) k.toNatClampNeg = 0 then mB2 v k else mS3 (mB2 v k) k
def mNote (v : MS) (k : Int32) : MS := mUc (mUN v (upd (mN v) (mc v).toNatClampNeg k)) (mc (mUN v (upd (mN v) (mc v).toNatClampNeg k)) + 1)
def mWrote (v : MS) (k : Int32) : MS := if mp v = 1 then mNote v k else if mp v = 2 then mBrings v k else v
def mWrites (v : MS) (k row : Int32) : MS := mWrote (mUO v (upd (mO v) k.toNatClampNeg row)) k
def mFault (v : MS) (k a b : Int32) : Int32 := if !xWithin k 0 39 then 1 else if !(xWithin a 0 999 && xWithin b 0 999) || (decide (mp v = 2) && !mSuits v (1000 * a + b)) then 2 else 0
def mfInsert (v : MS) (k a b : Int32) : Int32 := if mFault v k a b ≤ 0 then (if mSeen v k then 3 else 0) else mFault v k a b
def mfUpdate (v : MS) (k a b : Int32) : Int32 := if mFault v k a b ≤ 0 then (if mSeen v k then 0 else 3) else mFault v k a b
def mInsert (v : MS) (k a b : Int32) : MS := if mfInsert v k a b = 0 then mWrites (mUz v (mfInsert v k a b)) k (1000 * a + b) else mUz v (mfInsert v k a b)
def mUpdate (v : MS) (k a b : Int32) : MS := if mfUpdate v k a b = 0 then mWrites (mUz v (mfUpdate v k a b)) k (1000 * a + b) else mUz v (mfUpdate v k a b)
def mfDelete (v : MS) (k : Int32) : Int32 := if !xWithin k 0 39 then 1 else if mSeen v k then 0 else 2
def mDelete (v : MS) (k : Int32) : MS := if mfDelete v k = 0 then mWrites (mUz v (mfDelete v k)) k (-1) else mUz v (mfDelete v k)
def kBoth (a b : Bool) : Bool := a && b
def mfRekey (v : MS) (k to : Int32) : Int32 := if !kBoth (xWithin k 0 39) (xWithin to 0 39) then 1 else if k = to then 2 else if !mSeen v k then 3 else if mSeen v to then 4 else 0
def mMin (a b : Int32) : Int32 := if b ≤ a then b else a
def mMax (a b : Int32) : Int32 := if b ≤ a then a else b
def mMove (v : MS) (k to : Int32) : MS := mUO (mUO v (upd (mO v) to.toNatClampNeg (mO v k.toNatClampNeg))) (upd (mO (mUO v (upd (mO v) to.toNatClampNeg (mO v k.toNatClampNeg)))) k.toNatClampNeg (-1))
def mRekey (v : MS) (k to : Int32) : MS := if mfRekey v k to = 0 then mWrote (mWrote (mMove (mUz v (mfRekey v k to)) k to) (mMin k to)) (mMax k to) else mUz v (mfRekey v k to)
def mClr (v : MS) : Nat → MS
  | 0 => v
  | n + 1 => mUF (mUH (mClr v n) (upd (mH (mClr v n)) (nI n).toNatClampNeg (vp_nar .boolean 0))) (upd (mF (mUH (mClr v n) (upd (mH (mClr v n)) (nI n).toNatClampNeg (vp_nar .boolean 0)))) (nI n).toNatClampNeg (vp_nar .boolean 0))
def mClears (v : MS) : MS := mUc (mUm (mClr v 40) 0) 0
def mfStart (v : MS) (al pa : Int32) : Int32 := if !kBoth (xWithin al 0 2) (xWithin pa 0 999) then 1 else if mp v = 0 then 0 else 2
def mStart (v : MS) (al pa : Int32) : MS := if mfStart v al pa = 0 then mUp (mClears (mUq (mUt (mUz v (mfStart v al pa)) al) pa)) 1 else mUz v (mfStart v al pa)
def mfPace (ch lag : Int32) : Int32 := if xWithin ch 1 40 && xWithin lag 0 100 then 0 else 1
def mPace (v : MS) (ch lag : Int32) : MS := if mfPace ch lag = 0 then mUl (mUk (mUz v (mfPace ch lag)) ch) lag else mUz v (mfPace ch lag)
def mPlayL (v : MS) : Nat → MS
  | 0 => v
  | n + 1 => mBrings (mPlayL v n) (mN (mPlayL v n) (nI n).toNatClampNeg)
def mShift (v : MS) (c : Nat) : Nat → MS
  | 0 => v
  | n + 1 => mUN (mShift v c n) (upd (mN (mShift v c n)) (nI (c + n) - nI c).toNatClampNeg (mN (mShift v c n) (nI (c + n)).toNatClampNeg))
def mPlays (v : MS) (c n : Nat) : MS := mUc (mShift (mPlayL v c) c n) (mc (mShift (mPlayL v c) c n) - nI c)
def mfTick (v : MS) (lag : Int32) : Int32 := if !xWithin lag 0 1000 then 1 else if mp v = 1 then 0 else 2
def mLeft (v : MS) : Int32 := if 40 ≤ mm v then mc v else 40 - mm v
def mMany (v : MS) : Int32 := if mk v ≤ mLeft v then mk v else mLeft v
def mTickL (v : MS) : Nat → MS
  | 0 => v
  | n + 1 => mUm (mBrings (mTickL v n) (mm (mTickL v n))) (mm (mBrings (mTickL v n) (mm (mTickL v n))) + 1)
def mTick (v : MS) (lag : Int32) (cn r : Nat) : MS := if mfTick v lag = 0 then (if lag ≤ ml v then (if 40 ≤ mm v then mPlays (mUz v (mfTick v lag)) cn r else mTickL (mUz v (mfTick v lag)) cn) else mUz v (mfTick v lag)) else mUz v (mfTick v lag)
def mfCut (v : MS) (most : Int32) : Int32 := if !xWithin most 0 1000 then 1 else if !decide (mp v = 1) || (decide (mm v < 40) || !decide (mc v ≤ most)) then 2 else 0
def mCut (v : MS) (most : Int32) (n : Nat) : MS := if mfCut v most = 0 then mUp (mPlays (mUz v (mfCut v most)) n 0) 2 else mUz v (mfCut v most)
def mfUndo (v : MS) : Int32 := if mp v = 2 then 0 else 1
def mUndo (v : MS) : MS := if mfUndo v = 0 then mUp (mUz v (mfUndo v)) 1 else mUz v (mfUndo v)
def mShd (v : MS) : Nat → Int32 := kSum (fun i => b2i (!decide (mH v (nI i).toNatClampNeg = 0)))
def mGo (v : MS) (i : Nat) : Bool := !decide (mO v (nI i).toNatClampNeg = -1) && decide (mH v (nI i).toNatClampNeg = 0)
def mRem (v : MS) : Nat → MS
  | 0 => v
  | n + 1 => if mGo (mRem v n) n then mUO (mRem v n) (upd (mO (mRem v n)) (nI n).toNatClampNeg (-1)) else mRem v n
def mRemN (v : MS) : Nat → Int32
  | 0 => 0
  | n + 1 => mRemN v n + b2i (mGo (mRem v n) n)
def mFinish (v : MS) : MS := if mfUndo v = 0 then mUp (mClears (mRem (mUz v (mfUndo v)) 40)) 0 else mUz v (mfUndo v)
def mfGive (v : MS) : Int32 := if mp v = 1 then 0 else 1
def mGive (v : MS) : MS := if mfGive v = 0 then mUp (mClears (mUz v (mfGive v))) 0 else mUz v (mfGive v)
def mfKey (k : Int32) : Int32 := if xWithin k 0 39 then 0 else 1
def mfCol (c : Int32) : Int32 := if xWithin c 0 2 then 0 else 1
def mfShadow (k c : Int32) : Int32 := if xWithin k 0 39 && xWithin c 0 2 then 0 else 1
def mRows (v : MS) : Nat → Int32 := kSum (fun i => b2i (mSeen v (nI i)))
def mE0 (v : MS) (k : Int32) : Bool := decide (b2i (mDue v k) = mH v k.toNatClampNeg)
def mEc (v : MS) (k c : Int32) : Bool := decide (mS v (3 * k + c).toNatClampNeg = mAlt v (mO v k.toNatClampNeg) c)
def mI1 (v : MS) (k : Int32) : Bool := kBoth (mE0 v k) (mEc v k 0)
def mI2 (v : MS) (k : Int32) : Bool := kBoth (mI1 v k) (mEc v k 1)
def mI3 (v : MS) (k : Int32) : Bool := kBoth (mI2 v k) (mEc v k 2)
def mEven (v : MS) (k : Int32) : Bool := if mDue v k then mI3 v k else mE0 v k
theorem mE0_t {v : MS} {k : Int32} (h : b2i (mDue v k) = mH v k.toNatClampNeg) : mE0 v k = true := decide_eq_true h
theorem mE0_f {v : MS} {k : Int32} (h : ¬ b2i (mDue v k) = mH v k.toNatClampNeg) : mE0 v k = false := decide_eq_false h
theorem mEc_t {v : MS} {k c : Int32} (h : mS v (3 * k + c).toNatClampNeg = mAlt v (mO v k.toNatClampNeg) c) : mEc v k c = true := decide_eq_true h
theorem mEc_f {v : MS} {k c : Int32} (h : ¬ mS v (3 * k + c).toNatClampNeg = mAlt v (mO v k.toNatClampNeg) c) : mEc v k c = false := decide_eq_false h
def mBehinds (v : MS) : Nat → Int32 := kSum (fun i => b2i (!mEven v (nI i)))
def mSumI (v : MS) (c : Int32) (i : Nat) : Int32 := if mH v (nI i).toNatClampNeg = 0 then 0 else mS v (3 * nI i + c).toNatClampNeg
def mSum (v : MS) (c : Int32) : Nat → Int32 := kSum (mSumI v c)
def mSumAI (v : MS) (c : Int32) (i : Nat) : Int32 := if mDue v (nI i) then mAlt v (mO v (nI i).toNatClampNeg) c else 0
def mSumAt (v : MS) (c : Int32) : Nat → Int32 := kSum (mSumAI v c)
theorem mFault_in {v : MS} {k a b : Int32} (h : mFault v k a b ≤ 0) : vp_in k 40 := by
  refine xKey_in ?_
  cases hk : xWithin k 0 39 with
  | true => rfl
  | false => simp [mFault, hk] at h
theorem mfInsert_in {v : MS} {k a b : Int32} (h : decide (mfInsert v k a b = 0) = true) : vp_in k 40 := by
  by_cases h1 : mFault v k a b ≤ 0
  · exact mFault_in h1
  · simp [mfInsert, h1] at h
    exact absurd (by rw [h]; exact Int32.le_refl _) h1
theorem mfUpdate_in {v : MS} {k a b : Int32} (h : decide (mfUpdate v k a b = 0) = true) : vp_in k 40 := by
  by_cases h1 : mFault v k a b ≤ 0
  · exact mFault_in h1
  · simp [mfUpdate, h1] at h
    exact absurd (by rw [h]; exact Int32.le_refl _) h1
theorem mfKey_in {k : Int32} (h : decide (mfKey k = 0) = true) : vp_in k 40 := by
  refine xKey_in ?_
  cases hk : xWithin k 0 39 with
  | true => rfl
  | false => simp [mfKey, hk] at h
theorem mfDelete_in {v : MS} {k : Int32} (h : decide (mfDelete v k = 0) = true) : vp_in k 40 := by
  refine xKey_in ?_
  cases hk : xWithin k 0 39 with
  | true => rfl
  | false => simp [mfDelete, hk] at h
theorem mfRekey_in {v : MS} {k to : Int32} (h : decide (mfRekey v k to = 0) = true) : vp_in k 40 ∧ vp_in to 40 := by
  cases hk : xWithin k 0 39 with
  | false => simp [mfRekey, kBoth, hk] at h
  | true =>
    cases ht : xWithin to 0 39 with
    | false => simp [mfRekey, kBoth, hk, ht] at h
    | true => exact ⟨xKey_in hk, xKey_in ht⟩
theorem mfShadow_in {k c : Int32} (h : decide (mfShadow k c = 0) = true) : vp_in k 40 ∧ vp_in c 3 := by
  cases hk : xWithin k 0 39 with
  | false => simp [mfShadow, hk] at h
  | true =>
    cases ht : xWithin c 0 2 with
    | false => simp [mfShadow, hk, ht] at h
    | true => exact ⟨xKey_in hk, xCol_in ht⟩
theorem kAnd2 {a b : Bool} (h : kBoth a b = true) : a = true ∧ b = true := Bool.and_eq_true_iff.mp h
theorem kidx {k c : Int32} (hk : vp_in k 40) (hc : vp_in c 3) : vp_in (3 * k + c) 120 := by
  obtain ⟨i, hi, rfl⟩ := vp_in_of hk (by decide)
  obtain ⟨j, hj, rfl⟩ := vp_in_of hc (by decide)
  rw [show (3 : Int32) = nI 3 from rfl, pk_mul, nI_add]
  exact vp_in_nI (by omega) (by decide)
theorem mMin_in {a b : Int32} {n : Nat} (ha : vp_in a n) (hb : vp_in b n) : vp_in (mMin a b) n := by unfold mMin; split <;> assumption
theorem mMax_in {a b : Int32} {n : Nat} (ha : vp_in a n) (hb : vp_in b n) : vp_in (mMax a b) n := by unfold mMax; split <;> assumption
theorem mBrings_N (v : MS) (k : Int32) : mN (mBrings v k) = mN v := by unfold mBrings; split <;> rfl
theorem mBrings_c (v : MS) (k : Int32) : mc (mBrings v k) = mc v := by unfold mBrings; split <;> rfl
theorem mBrings_m (v : MS) (k : Int32) : mm (mBrings v k) = mm v := by unfold mBrings; split <;> rfl
theorem mPlayL_N (v : MS) (n : Nat) : mN (mPlayL v n) = mN v := by
  induction n with
  | zero => rfl
  | succ n ih => exact (mBrings_N _ _).trans ih
theorem mPlayL_c (v : MS) (n : Nat) : mc (mPlayL v n) = mc v := by
  induction n with
  | zero => rfl
  | succ n ih => exact (mBrings_c _ _).trans ih
theorem mShift_c (v : MS) (c n : Nat) : mc (mShift v c n) = mc v := by
  induction n with
  | zero => rfl
  | succ n ih => exact ih
theorem mTickL_m {v : MS} {j : Nat} (h : mm v = nI j) (n : Nat) : mm (mTickL v n) = nI (j + n) := by
  induction n with
  | zero => exact h
  | succ n ih =>
    show mm (mBrings (mTickL v n) (mm (mTickL v n))) + 1 = _
    rw [mBrings_m, ih, nI_1]
    rfl
theorem mWrote_c {v : MS} {k : Int32} (h0 : vp_in (mc v) 2000) (h1 : vp_in (mc v + 1) 2000) : vp_in (mc (mWrote v k)) 2000 := by
  unfold mWrote
  by_cases h : mp v = 1
  · rw [if_pos h]; exact h1
  · rw [if_neg h]
    by_cases h2 : mp v = 2
    · rw [if_pos h2, mBrings_c]; exact h0
    · rw [if_neg h2]; exact h0

/-! MINE: the law's rows, and what the reference says that it threw. -/
theorem z_brings (w : MS) (k : Int32) : mz (mBrings w k) = mz w := by unfold mBrings; split <;> rfl
theorem z_wrote (w : MS) (k : Int32) : mz (mWrote w k) = mz w := by
  unfold mWrote
  split
  · rfl
  · split
    · exact z_brings w k
    · rfl
theorem Z_insert (w : MS) (k a b : Int32) : mz (mInsert w k a b) = mfInsert w k a b := by
  unfold mInsert
  split
  · exact z_wrote _ _
  · rfl
theorem Z_update (w : MS) (k a b : Int32) : mz (mUpdate w k a b) = mfUpdate w k a b := by
  unfold mUpdate
  split
  · exact z_wrote _ _
  · rfl
theorem Z_delete (w : MS) (k : Int32) : mz (mDelete w k) = mfDelete w k := by
  unfold mDelete
  split
  · exact z_wrote _ _
  · rfl
theorem Z_rekey (w : MS) (k t : Int32) : mz (mRekey w k t) = mfRekey w k t := by
  unfold mRekey
  split
  · exact (z_wrote _ _).trans (z_wrote _ _)
  · rfl
theorem z_clr (w : MS) (i : Nat) : mz (mClr w i) = mz w := by
  induction i with
  | zero => rfl
  | succ i ih => exact ih
theorem z_Um (x : MS) (k : Int32) : mz (mUm x k) = mz x := rfl
theorem z_Uc (x : MS) (k : Int32) : mz (mUc x k) = mz x := rfl
theorem z_Up (x : MS) (k : Int32) : mz (mUp x k) = mz x := rfl
theorem z_clears (w : MS) : mz (mClears w) = mz w := by
  unfold mClears
  rw [z_Uc, z_Um]
  exact z_clr w 40
theorem Z_start (w : MS) (al pa : Int32) : mz (mStart w al pa) = mfStart w al pa := by
  unfold mStart
  split
  · rw [z_Up, z_clears]
    rfl
  · rfl
theorem Z_pace (w : MS) (ch lag : Int32) : mz (mPace w ch lag) = mfPace ch lag := by
  unfold mPace
  split <;> rfl
theorem z_playL (w : MS) (i : Nat) : mz (mPlayL w i) = mz w := by
  induction i with
  | zero => rfl
  | succ i ih => exact (z_brings _ _).trans ih
theorem z_shift (w : MS) (c i : Nat) : mz (mShift w c i) = mz w := by
  induction i with
  | zero => rfl
  | succ i ih => exact ih
theorem z_plays (w : MS) (c r : Nat) : mz (mPlays w c r) = mz w := by
  unfold mPlays
  rw [z_Uc, z_shift, z_playL]
theorem z_tickL (w : MS) (i : Nat) : mz (mTickL w i) = mz w := by
  induction i with
  | zero => rfl
  | succ i ih =>
    show mz (mUm (mBrings (mTickL w i) (mm (mTickL w i))) (mm (mBrings (mTickL w i) (mm (mTickL w i))) + 1)) = mz w
    rw [z_Um, z_brings]
    exact ih
theorem Z_tick (w : MS) (lag : Int32) (cn r : Nat) : mz (mTick w lag cn r) = mfTick w lag := by
  unfold mTick
  split
  · split
    · split
      · exact z_plays _ _ _
      · exact z_tickL _ _
    · rfl
  · rfl
theorem Z_cut (w : MS) (most : Int32) (n : Nat) : mz (mCut w most n) = mfCut w most := by
  unfold mCut
  split
  · rw [z_Up, z_plays]
    rfl
  · rfl
theorem Z_undo (w : MS) : mz (mUndo w) = mfUndo w := by
  unfold mUndo
  split <;> rfl
theorem z_rem (w : MS) (i : Nat) : mz (mRem w i) = mz w := by
  induction i with
  | zero => rfl
  | succ i ih =>
    show mz (if mGo (mRem w i) i then mUO (mRem w i) (upd (mO (mRem w i)) (nI i).toNatClampNeg (-1)) else mRem w i) = mz w
    split
    · exact ih
    · exact ih
theorem Z_finish (w : MS) : mz (mFinish w) = mfUndo w := by
  unfold mFinish
  split
  · rw [z_Up, z_clears, z_rem]
    rfl
  · rfl
theorem Z_give (w : MS) : mz (mGive w) = mfGive w := by
  unfold mGive
  split
  · rw [z_Up, z_clears]
    rfl
  · rfl
theorem fn0 {x : Nat} (h : nI x = 0) (hs : x < 5) : x = 0 := (nI_eq (by omega) (by decide)).mp (h.trans nI_0.symm)
theorem SR_mc {n : Nat} {v : XS} {w : MS} (h : SR n v w) (hn : n ≤ 1024) : vp_in (mc w) 2000 ∧ vp_in (mc w + 1) 2000 ∧ ¬ xc v < 0 := by
  obtain ⟨⟨h1, h2, c, c1, c2, c3, c4⟩, -⟩ := h
  rw [c2, c3, nI_1]
  exact ⟨vp_in_nI (by omega) (by decide), vp_in_nI (by omega) (by decide), nI_pos (by omega)⟩
theorem SR_nn {n : Nat} {v : XS} {w : MS} (h : SR n v w) (hn : n ≤ 1024) : ∃ c : Nat, c ≤ n ∧ xc v = nI c ∧ mc w = nI c ∧ (∀ j, j < c → xN v j = mN w j ∧ vp_in (xN v j) 40) ∧ (∀ j, j < c → vp_in (xN v (nI j).toNatClampNeg) 40) ∧ ∀ j, j < c → vp_in (mN w (nI j).toNatClampNeg) 40 := by
  obtain ⟨⟨h1, h2, c, c1, c2, c3, c4⟩, -⟩ := h
  refine ⟨c, c1, c2, c3, c4, fun j hj => ?_, fun j hj => ?_⟩
  · rw [nI_clamp (by omega)]
    exact (c4 j hj).2
  · rw [nI_clamp (by omega), ← (c4 j hj).1]
    exact (c4 j hj).2
theorem kl_self (z : Int64) : lg_cmp z z = 0 := by
  unfold lg_cmp
  simp [Int64.lt_irrefl]
theorem kl_cmp {n : Nat} {f : Nat → Int64} {r z : Int64} (hn : n = 0) (h : r = z) : lg_cmp (kOf n f r 0) z = 0 := by
  subst hn
  subst h
  unfold kOf
  rw [if_pos rfl, pk_uLs]
  exact kl_self _
theorem wnN {n : Nat} {c : Nat} (hc : c ≤ n) (hn : n ≤ 1024) : c ≤ 1024 := Nat.le_trans hc hn
section KSC
variable {p : Program} {l : Launch} {e : Env} {R : Room} {s : State} {m : MethodId} {args : Array Value} {below : List Frame} {meth : Method} {c : Code} {H : Heap} {locs : List Loc} {cells slots : Nat} {Q : State → Prop}
variable {cc : ByteArray} {pc : Nat} {ls : Array Slot} {rest : List Value} {D : va_G} {ca : Nat → ClassId} {A : Nat → Prop} {own : String} {b L i0 : Nat} {xs : Nat → Int32} {W0 : va_W}
/-- an int of the script -/
theorem k_sld (j : Nat) {J : Int32} (cx : KC p c cc s args m own D ca) (hX : va_X b L xs s s.heap) (hbl : b < s.heap.size) (hbA : ¬ A b) (hI : KI D A W0 s.heap H locs) (hJ : J = nI j) (hi : i0 + j < L) (hL : L ≤ 2048) (hdg : decode cc pc = .ok (.iaload, 1))
    (kk : W p l e R s m args below meth c H locs cells slots Q (F0 m (pc + 1) ls (.int (xs (i0 + j)) :: rest))) : W p l e R s m args below meth c H locs cells slots Q (F0 m pc ls (.int (nI i0 + J) :: .ref b :: rest)) := by
  subst hJ
  rw [nI_add]
  refine va_sld cx.1 cx.2.1 hX hbl hbA hI.2.2.1 (vp_in_nI hi (by omega)) hdg ?_
  rw [nI_clamp (by omega)]
  exact kk
end KSC

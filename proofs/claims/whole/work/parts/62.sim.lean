/-! MINE: ticks, cuts, ends keep what is common. -/
theorem SQ_playL {n : Nat} {v : XS} {w : MS} (h : SQ n v w) {c : Nat} (hc : c ≤ 1024) (hx : ∀ j, j < c → xN v j = mN w j ∧ vp_in (xN v j) 40) : ∀ i, i ≤ c → SQ n (xPlayL v i) (mPlayL w i)
  | 0, _ => h
  | i + 1, hi => by
    have ih := SQ_playL h hc hx i (by omega)
    obtain ⟨g1, g2⟩ := hx i (by omega)
    show SQ n (xBring (xPlayL v i) (xN (xPlayL v i) (nI i).toNatClampNeg)) (mBrings (mPlayL w i) (mN (mPlayL w i) (nI i).toNatClampNeg))
    rw [xPlayL_N, mPlayL_N, nI_clamp (by omega), ← g1]
    obtain ⟨j, hj, e⟩ := vp_in_of g2 (by decide)
    rw [e]
    exact SQ_bring ih hj
theorem xPlayL_p (v : XS) (i : Nat) : xp (xPlayL v i) = xp v ∧ xm (xPlayL v i) = xm v := by
  induction i with
  | zero => exact ⟨rfl, rfl⟩
  | succ i ih => exact ih
theorem mPlayL_m (w : MS) (i : Nat) : mm (mPlayL w i) = mm w := by
  induction i with
  | zero => rfl
  | succ i ih => exact (mBrings_m _ _).trans ih
theorem mShift_is (w : MS) (c : Nat) : ∀ r, c + r ≤ 2000 → ∃ g : Nat → Int32, mShift w c r = mUN w g ∧ (∀ j, j < r → g j = mN w (c + j)) ∧ ∀ j, r ≤ j → g j = mN w j
  | 0, _ => ⟨mN w, rfl, fun j hj => absurd hj (Nat.not_lt_zero j), fun _ _ => rfl⟩
  | r + 1, hr => by
    obtain ⟨g, e, h1, h2⟩ := mShift_is w c r (by omega)
    refine ⟨upd g r (g (c + r)), ?_, fun j hj => ?_, fun j hj => ?_⟩
    · show mUN (mShift w c r) (upd (mN (mShift w c r)) (nI (c + r) - nI c).toNatClampNeg (mN (mShift w c r) (nI (c + r)).toNatClampNeg)) = _
      rw [e, pk_sub (by omega), show c + r - c = r by omega, nI_clamp (by omega), nI_clamp (by omega)]
      rfl
    · by_cases q : j = r
      · subst q
        rw [pk_us, h2 _ (by omega)]
      · rw [pk_un q, h1 j (by omega)]
    · rw [pk_un (by omega), h2 j (by omega)]
/-- the notes played: both states -/
theorem SQ_play {n : Nat} {v : XS} {w : MS} (h : SQ n v w) {cn c : Nat} (h1 : cn ≤ c) (hc : c ≤ 1024) (hxc : xc v = nI c) (hmc : mc w = nI c) (hn : c ≤ n) (hx : ∀ j, j < c → xN v j = mN w j ∧ vp_in (xN v j) 40) : SQ n (xPlay v cn) (mPlays w cn (c - cn)) := by
  have hp := SQ_playL h (c := cn) (by omega) (fun j hj => hx j (by omega)) cn (Nat.le_refl _)
  obtain ⟨g, e, g1, g2⟩ := mShift_is (mPlayL w cn) cn (c - cn) (by omega)
  obtain ⟨p1, p2, -⟩ := hp
  have hcx : xc (xPlayL v cn) - nI cn = nI (c - cn) := by rw [xPlayL_c, hxc, pk_sub h1]
  unfold mPlays
  rw [e]
  refine ⟨p1, p2, c - cn, by omega, hcx, ?_, fun j hj => ?_⟩
  · show mc (mPlayL w cn) - nI cn = _
    rw [mPlayL_c, hmc, pk_sub h1]
  · have q1 : xN (xPlay v cn) j = xN v (cn + j) := by
      show va_cpy (xN (xPlayL v cn)) (xN (xPlayL v cn)) (nI cn).toNatClampNeg (0 : Int32).toNatClampNeg (xc (xPlayL v cn) - nI cn).toNatClampNeg j = _
      rw [hcx, nI_clamp (by omega), nI_clamp (by omega), xPlayL_N, show (0 : Int32).toNatClampNeg = 0 from rfl, pk_cpy_in (Nat.zero_le _) (by omega), Nat.sub_zero]
    have q2 : mN (mUc (mUN (mPlayL w cn) g) (mc (mUN (mPlayL w cn) g) - nI cn)) j = mN w (cn + j) := by
      show g j = _
      rw [g1 j hj, mPlayL_N]
    rw [q1, q2]
    exact hx _ (by omega)
theorem xPlay_o (v : XS) (cn : Nat) : xp (xPlay v cn) = xp v ∧ xm (xPlay v cn) = xm v := xPlayL_p v cn
theorem mPlays_m (w : MS) {cn r : Nat} (h : cn + r ≤ 2000) : mm (mPlays w cn r) = mm w := by
  obtain ⟨g, e, -⟩ := mShift_is (mPlayL w cn) cn r h
  unfold mPlays
  rw [e]
  exact mPlayL_m w cn
theorem SR_play {n : Nat} {v : XS} {w : MS} (h : SR n v w) (hp : xp v ≠ 0) {cn c : Nat} (h1 : cn ≤ c) (hc : c ≤ 1024) (hxc : xc v = nI c) (hmc : mc w = nI c) (hn : c ≤ n) (hx : ∀ j, j < c → xN v j = mN w j ∧ vp_in (xN v j) 40) : SR n (xPlay v cn) (mPlays w cn (c - cn)) := by
  obtain ⟨h1', ⟨a, b, m1, m2, m3, m4, m5⟩, h3⟩ := h
  refine ⟨SQ_play h1' h1 hc hxc hmc hn hx, ⟨a, b, m1, m2, (xPlay_o v cn).2.trans m3, (mPlays_m w (by omega)).trans m4, fun e => m5 (by rw [← (xPlay_o v cn).1]; exact e)⟩, fun e => absurd e (by rw [(xPlay_o v cn).1]; exact hp)⟩
theorem SQ_mUm {n : Nat} {v : XS} {w : MS} (h : SQ n v w) (z : Int32) : SQ n v (mUm w z) := h
theorem SQ_copyL {n : Nat} {v : XS} {w : MS} (h : SQ n v w) {a : Nat} (ha : mm w = nI a) : ∀ i, a + i ≤ 40 → SQ n (xCopyL v a i) (mTickL w i)
  | 0, _ => h
  | i + 1, hi => by
    have ih := SQ_copyL h ha i (by omega)
    show SQ n (xBring (xCopyL v a i) (nI (a + i))) (mUm (mBrings (mTickL w i) (mm (mTickL w i))) (mm (mBrings (mTickL w i) (mm (mTickL w i))) + 1))
    rw [mTickL_m ha]
    exact SQ_mUm (SQ_bring ih (by omega)) _
theorem xCopyL_p (v : XS) (a i : Nat) : xp (xCopyL v a i) = xp v := by
  induction i with
  | zero => rfl
  | succ i ih => exact ih
/-- a tick's numbers, of a state that both have -/
theorem SR_nums {n : Nat} {v : XS} {w : MS} (h : SR n v w) (hn : n ≤ 1024) : ∃ a b c ch : Nat, a ≤ 40 ∧ b ≤ 40 ∧ c ≤ n ∧ 1 ≤ ch ∧ ch ≤ 40 ∧ xm v = nI a ∧ mm w = nI b ∧ xc v = nI c ∧ mc w = nI c ∧ xk v = nI ch ∧ mk w = nI ch ∧ (xp v ≠ 0 → a = b) ∧ ∀ j, j < c → xN v j = mN w j ∧ vp_in (xN v j) 40 := by
  obtain ⟨⟨h1, h2, c, c1, c2, c3, c4⟩, ⟨a, b, m1, m2, m3, m4, m5⟩, -⟩ := h
  obtain ⟨ch, k1, k2, k3⟩ := h1.2.2.2.2.2.2.1
  exact ⟨a, b, c, ch, m1, m2, c1, k1, k2, m3, m4, c2, c3, k3, h1.2.2.2.1.symm.trans k3, m5, c4⟩
theorem n40 {a : Nat} (ha : a ≤ 40) : (40 : Int32) ≤ nI a ↔ a = 40 := by
  rw [show (40 : Int32) = nI 40 from rfl, nI_leI (by omega) (by omega)]
  omega
theorem e_copy {v : XS} {a ch : Nat} (ha : a ≤ 40) (hc : ch ≤ 40) (h1 : xm v = nI a) (h2 : xk v = nI ch) : xCopyE v = nI (a + (min 40 (a + ch) - a)) := by
  unfold xCopyE
  rw [h1, h2, nI_add, show (40 : Int32) = nI 40 from rfl]
  by_cases h : 40 < a + ch
  · rw [if_pos ((nI_ltI (by omega) (by omega)).mpr h)]
    congr 1
    omega
  · rw [if_neg (fun q => h ((nI_ltI (by omega) (by omega)).mp q))]
    congr 1
    omega
theorem e_min {v : XS} {c ch : Nat} (hc : c ≤ 1024) (hh : ch ≤ 40) (h1 : xc v = nI c) (h2 : xk v = nI ch) : kMin (xk v) (xc v) = nI (min ch c) := by
  unfold kMin
  rw [h1, h2]
  by_cases h : c < ch
  · rw [if_pos ((nI_ltI (by omega) (by omega)).mpr h)]
    congr 1
    omega
  · rw [if_neg (fun q => h ((nI_ltI (by omega) (by omega)).mp q))]
    congr 1
    omega
theorem e_many {w : MS} {b c ch : Nat} (hb : b ≤ 40) (hc : c ≤ 1024) (hh : ch ≤ 40) (h0 : mm w = nI b) (h1 : mc w = nI c) (h2 : mk w = nI ch) : mMany w = nI (min ch (if b = 40 then c else 40 - b)) := by
  unfold mMany mLeft
  rw [h0, h1, h2]
  have g : ∀ d : Nat, d ≤ 1024 → (if nI ch ≤ nI d then nI ch else nI d) = nI (min ch d) := fun d hd => by
    by_cases h : ch ≤ d
    · rw [if_pos ((nI_leI (by omega) (by omega)).mpr h)]
      congr 1
      omega
    · rw [if_neg (fun q => h ((nI_leI (by omega) (by omega)).mp q))]
      congr 1
      omega
  by_cases h : b = 40
  · rw [if_pos ((n40 hb).mpr h), if_pos h]
    exact g c hc
  · rw [if_neg (fun q => h ((n40 hb).mp q)), if_neg h, show (40 : Int32) = nI 40 from rfl, pk_sub (by omega)]
    exact g _ (by omega)
theorem SR_tick {n : Nat} {v : XS} {w : MS} (h : SR n v w) (hn : n ≤ 1024) (lag : Int32) {a b c ch : Nat} (ha : a ≤ 40) (hb : b ≤ 40) (hc : c ≤ n) (hh1 : 1 ≤ ch) (hh : ch ≤ 40) (e1 : xm v = nI a) (e2 : mm w = nI b) (e3 : xc v = nI c) (e4 : mc w = nI c) (e5 : xk v = nI ch) (e6 : mk w = nI ch) (e7 : xp v ≠ 0 → a = b) (hx : ∀ j, j < c → xN v j = mN w j ∧ vp_in (xN v j) 40) :
    SR n (kSt (xfTick v lag) v (if lag ≤ xl v then (if 40 ≤ xm v then xPlay v (min ch c) else xCopy v a (min 40 (a + ch) - a)) else v)) (mTick w lag (min ch (if b = 40 then c else 40 - b)) (c - min ch (if b = 40 then c else 40 - b))) := by
  have hf := f_tick h lag
  unfold kSt mTick
  by_cases e : xfTick v lag = 0
  · rw [if_pos e, if_pos (fz hf e), h.1.1.2.2.2.2.1]
    have hp : xp v ≠ 0 := by
      unfold xfTick at e
      intro q
      rw [q] at e
      cases hk : xWithin lag 0 1000 with
      | false => rw [hk] at e; simp at e
      | true => rw [hk] at e; simp at e
    have hab := e7 hp
    subst hab
    by_cases hl : lag ≤ ml w
    · rw [if_pos hl, if_pos hl, e1, e2]
      by_cases h4 : a = 40
      · rw [if_pos ((n40 ha).mpr h4), if_pos ((n40 ha).mpr h4), if_pos h4]
        exact SR_play (SR_mUz h _) hp (Nat.min_le_right _ _) (by omega) e3 e4 hc hx
      · rw [if_neg (fun q => h4 ((n40 ha).mp q)), if_neg (fun q => h4 ((n40 ha).mp q)), if_neg h4, show min 40 (a + ch) - a = min ch (40 - a) by omega]
        have hq := SQ_copyL (SQ_mUz h.1 (mfTick w lag)) (a := a) e2 (min ch (40 - a)) (by omega)
        refine ⟨hq, ⟨a + min ch (40 - a), a + min ch (40 - a), by omega, by omega, ?_, mTickL_m (v := mUz w (mfTick w lag)) e2 _, fun _ => rfl⟩, fun q => absurd ((xCopyL_p v a _).symm.trans q) hp⟩
        show xCopyE v = _
        rw [e_copy ha hh e1 e5]
        congr 1
        omega
    · rw [if_neg hl, if_neg hl]
      exact SR_mUz h _
  · rw [if_neg e, if_neg (fnz hf e (xfTick_s v lag))]
    exact SR_mUz h _
theorem A_tick {n : Nat} {v : XS} {w : MS} (h : SR n v w) (hn : n ≤ 1024) (lag : Int32) {a b c ch : Nat} (ha : a ≤ 40) (hb : b ≤ 40) (hc : c ≤ n) (hh : ch ≤ 40) (e1 : xm v = nI a) (e2 : mm w = nI b) (e3 : xc v = nI c) (e4 : mc w = nI c) (e5 : xk v = nI ch) (e6 : mk w = nI ch) (e7 : xp v ≠ 0 → a = b) (e : xfTick v lag = 0) :
    (if lag ≤ xl v then (if 40 ≤ xm v then kMin (xk v) (xc v) else xCopyE v - xm v) else 0) = (if mfTick w lag = 0 then (if lag ≤ ml w then mMany w else 0) else 0) := by
  rw [if_pos (fz (f_tick h lag) e), h.1.1.2.2.2.2.1]
  have hp : xp v ≠ 0 := by
    unfold xfTick at e
    intro q
    rw [q] at e
    cases hk : xWithin lag 0 1000 with
    | false => rw [hk] at e; simp at e
    | true => rw [hk] at e; simp at e
  have hab := e7 hp
  subst hab
  by_cases hl : lag ≤ ml w
  · rw [if_pos hl, if_pos hl, e_many hb (by omega) hh e2 e4 e6]
    by_cases h4 : a = 40
    · rw [e_min (by omega) hh e3 e5, if_pos h4, e1, if_pos ((n40 ha).mpr h4)]
    · rw [e_copy ha hh e1 e5, e1, if_neg (fun q => h4 ((n40 ha).mp q)), if_neg h4, pk_sub (by omega)]
      congr 1
      omega
  · rw [if_neg hl, if_neg hl]
theorem SR_cut {n : Nat} {v : XS} {w : MS} (h : SR n v w) (hn : n ≤ 1024) (most : Int32) {c : Nat} (hc : c ≤ n) (e3 : xc v = nI c) (e4 : mc w = nI c) (hx : ∀ j, j < c → xN v j = mN w j ∧ vp_in (xN v j) 40) : SR n (kSt (xfCut v most) v (xUp (xPlay v c) 2)) (mCut w most c) := by
  have hf := f_cut h most
  unfold kSt mCut
  by_cases e : xfCut v most = 0
  · rw [if_pos e, if_pos (fz hf e)]
    have hp : xp v ≠ 0 := by
      unfold xfCut at e
      intro q
      rw [q] at e
      cases hk : xWithin most 0 1000 with
      | false => rw [hk] at e; simp at e
      | true => rw [hk] at e; simp at e
    have hq := SR_play (SR_mUz h (mfCut w most)) hp (Nat.le_refl c) (by omega) e3 e4 hc hx
    rw [Nat.sub_self] at hq
    obtain ⟨⟨⟨c1, c2⟩, h2⟩, ⟨a, b, m1, m2, m3, m4, m5⟩, h5⟩ := hq
    exact ⟨⟨⟨rfl, c2⟩, h2⟩, ⟨a, b, m1, m2, m3, m4, fun _ => m5 (by rw [(xPlay_o v c).1]; exact hp)⟩, fun q => absurd q (show ¬ (2 : Int32) = 0 by decide)⟩
  · rw [if_neg e, if_neg (fnz hf e (xfCut_s v most))]
    exact SR_mUz h _
theorem SR_undo {n : Nat} {v : XS} {w : MS} (h : SR n v w) : SR n (kSt (xfUndo v) v (xUp v 1)) (mUndo w) := by
  have hf := f_undo h
  unfold kSt mUndo
  by_cases e : xfUndo v = 0
  · rw [if_pos e, if_pos (fz hf e)]
    have hp : xp v ≠ 0 := by
      unfold xfUndo at e
      intro q
      rw [q] at e
      simp at e
    obtain ⟨⟨⟨c1, c2⟩, h2⟩, ⟨a, b, m1, m2, m3, m4, m5⟩, h5⟩ := h
    exact ⟨⟨⟨rfl, c2⟩, h2⟩, ⟨a, b, m1, m2, m3, m4, fun _ => m5 hp⟩, fun q => absurd q (show ¬ (1 : Int32) = 0 by decide)⟩
  · rw [if_neg e, if_neg (fnz hf e (xfUndo_s v))]
    exact SR_mUz h _
/-- the reference's clearing -/
theorem mClr_is (w : MS) : ∀ i, i ≤ 40 → ∃ g f : Nat → Int32, mClr w i = mUF (mUH w g) f ∧ (∀ j, j < i → g j = 0 ∧ f j = 0) ∧ ∀ j, i ≤ j → g j = mH w j ∧ f j = mF w j
  | 0, _ => ⟨mH w, mF w, rfl, fun j hj => absurd hj (Nat.not_lt_zero j), fun _ _ => ⟨rfl, rfl⟩⟩
  | i + 1, hi => by
    obtain ⟨g, f, e, h1, h2⟩ := mClr_is w i (by omega)
    refine ⟨upd g i 0, upd f i 0, ?_, fun j hj => ?_, fun j hj => ?_⟩
    · show mUF (mUH (mClr w i) (upd (mH (mClr w i)) (nI i).toNatClampNeg (vp_nar .boolean 0))) (upd (mF (mUH (mClr w i) (upd (mH (mClr w i)) (nI i).toNatClampNeg (vp_nar .boolean 0)))) (nI i).toNatClampNeg (vp_nar .boolean 0)) = _
      rw [e, nI_clamp (by omega), show vp_nar .boolean 0 = 0 from rfl]
      rfl
    · by_cases q : j = i
      · subst q
        rw [pk_us, pk_us]
        exact ⟨rfl, rfl⟩
      · rw [pk_un q, pk_un q]
        exact h1 j (by omega)
    · rw [pk_un (by omega), pk_un (by omega)]
      exact h2 j (by omega)
theorem xUnr_is (v : XS) : ∀ i, i ≤ 40 → ∃ g : Nat → Int32, xUnr v i = xUR v g ∧ (∀ j, j < i → g j = 0) ∧ ∀ j, i ≤ j → g j = xR v j
  | 0, _ => ⟨xR v, rfl, fun j hj => absurd hj (Nat.not_lt_zero j), fun _ _ => rfl⟩
  | i + 1, hi => by
    obtain ⟨g, e, h1, h2⟩ := xUnr_is v i (by omega)
    refine ⟨upd g i 0, ?_, fun j hj => ?_, fun j hj => ?_⟩
    · show xUR (xUnr v i) (upd (xR (xUnr v i)) (nI i).toNatClampNeg (vp_nar .boolean 0)) = _
      rw [e, nI_clamp (by omega), show vp_nar .boolean 0 = 0 from rfl]
      rfl
    · by_cases q : j = i
      · subst q
        rw [pk_us]
      · rw [pk_un q]
        exact h1 j (by omega)
    · rw [pk_un (by omega)]
      exact h2 j (by omega)
theorem xClr_is (v : XS) : xClr v 3 = xUC2 (xUC1 (xUC0 v (kFill 40 (-1) (xC0 v))) (kFill 40 (-1) (xC1 v))) (kFill 40 (-1) (xC2 v)) := by
  show xUC (xUC (xUC v (nI 0).toNatClampNeg (kFill 40 (-1) (xC v (nI 0).toNatClampNeg))) (nI 1).toNatClampNeg (kFill 40 (-1) (xC (xUC v (nI 0).toNatClampNeg (kFill 40 (-1) (xC v (nI 0).toNatClampNeg))) (nI 1).toNatClampNeg))) (nI 2).toNatClampNeg (kFill 40 (-1) (xC (xUC (xUC v (nI 0).toNatClampNeg (kFill 40 (-1) (xC v (nI 0).toNatClampNeg))) (nI 1).toNatClampNeg (kFill 40 (-1) (xC (xUC v (nI 0).toNatClampNeg (kFill 40 (-1) (xC v (nI 0).toNatClampNeg))) (nI 1).toNatClampNeg))) (nI 2).toNatClampNeg)) = _
  rw [show (nI 0).toNatClampNeg = 0 from rfl, show (nI 1).toNatClampNeg = 1 from rfl, show (nI 2).toNatClampNeg = 2 from rfl]
  rfl
theorem kFill_in {n j : Nat} {y : Int32} {f : Nat → Int32} (h : j < n) : kFill n y f j = y := if_pos h
/-- a change's end -/
theorem SR_end {n : Nat} {v : XS} {w : MS} (h : SQ n v w) (hm : ∃ a : Nat, a ≤ 40 ∧ xm v = nI a) : SR n (xEnd v) (mUp (mClears w) 0) := by
  obtain ⟨⟨c1, c2, c3, c4, c5, c6, c7, c8⟩, h2, -⟩ := h
  obtain ⟨a, ha, ea⟩ := hm
  obtain ⟨g, f, e1, g1, g2⟩ := mClr_is w 40 (Nat.le_refl _)
  obtain ⟨r, e2, r1, r2⟩ := xUnr_is (xClr v 3) 40 (Nat.le_refl _)
  unfold xEnd mClears
  rw [e1, e2, xClr_is]
  rw [xClr_is] at r2
  refine ⟨⟨⟨rfl, c2, c3, c4, c5, c6, c7, fun j => ?_⟩, fun j hj => ⟨(h2 j hj).1, Or.inl ⟨(g1 j hj).1, kFill_in hj, kFill_in hj, kFill_in hj⟩, (r1 j hj).trans (g1 j hj).2.symm⟩, 0, Nat.zero_le _, rfl, rfl, fun j hj => absurd hj (Nat.not_lt_zero j)⟩, ⟨a, 0, ha, by omega, ea, rfl, fun q => absurd rfl q⟩, fun _ => ⟨rfl, fun j hj => ⟨kFill_in hj, kFill_in hj, kFill_in hj, r1 j hj⟩⟩⟩
  show r j = 0 ∨ r j = 1
  by_cases hj : j < 40
  · exact Or.inl (r1 j hj)
  · rw [r2 j (by omega)]
    exact c8 j
theorem SR_give {n : Nat} {v : XS} {w : MS} (h : SR n v w) : SR n (kSt (xfGive v) v (xEnd v)) (mGive w) := by
  have hf := f_give h
  unfold kSt mGive
  by_cases e : xfGive v = 0
  · rw [if_pos e, if_pos (fz hf e)]
    obtain ⟨h1, ⟨a, b, m1, m2, m3, m4, m5⟩, h5⟩ := h
    exact SR_end (SQ_mUz h1 _) ⟨a, m1, m3⟩
  · rw [if_neg e, if_neg (fnz hf e (xfGive_s v))]
    exact SR_mUz h _
theorem r_go {v : XS} {w : MS} {j : Nat} (hj : j < 40) (h : RO v w j) (h2 : RS v w j) : xGo v j = mGo w j := by
  unfold xGo mGo
  rw [r_old hj h, r_sh hj h2, Bool.not_not]
theorem SQ_rem {n : Nat} {v : XS} {w : MS} (h : SQ n v w) : ∀ i, i ≤ 40 → SQ n (xRem v i) (mRem w i) ∧ xRemN v i = mRemN w i ∧ xm (xRem v i) = xm v
  | 0, _ => ⟨h, rfl, rfl⟩
  | i + 1, hi => by
    obtain ⟨ih, i2, i3⟩ := SQ_rem h i (by omega)
    obtain ⟨g1, g2, -⟩ := ih.2.1 i (by omega)
    have hg := r_go (by omega) g1 g2
    refine ⟨?_, ?_, ?_⟩
    · show SQ n (if xGo (xRem v i) i then xPut (xRem v i) (nI i) (-1) (-1) else xRem v i) (if mGo (mRem w i) i then mUO (mRem w i) (upd (mO (mRem w i)) (nI i).toNatClampNeg (-1)) else mRem w i)
      rw [hg]
      cases mGo (mRem w i) i with
      | false => exact ih
      | true => exact SQ_put ih (by omega) _ _ _ (Or.inl ⟨rfl, rfl⟩)
    · show xRemN v i + b2i (xGo (xRem v i) i) = mRemN w i + b2i (mGo (mRem w i) i)
      rw [hg, i2]
    · show xm (if xGo (xRem v i) i then xPut (xRem v i) (nI i) (-1) (-1) else xRem v i) = xm v
      cases xGo (xRem v i) i with
      | false => exact i3
      | true => exact i3
theorem SR_finish {n : Nat} {v : XS} {w : MS} (h : SR n v w) : SR n (kSt (xfUndo v) v (xEnd (xRem v 40))) (mFinish w) := by
  have hf := f_undo h
  unfold kSt mFinish
  by_cases e : xfUndo v = 0
  · rw [if_pos e, if_pos (fz hf e)]
    obtain ⟨h1, ⟨a, b, m1, m2, m3, m4, m5⟩, h5⟩ := h
    obtain ⟨g1, -, g3⟩ := SQ_rem (SQ_mUz h1 (mfUndo w)) 40 (Nat.le_refl _)
    exact SR_end g1 ⟨a, m1, g3.trans m3⟩
  · rw [if_neg e, if_neg (fnz hf e (xfUndo_s v))]
    exact SR_mUz h _
theorem SQ_tq {n : Nat} {v : XS} {w : MS} (h : SQ n v w) (al : Int32) {q : Nat} (hq : q ≤ 999) : SQ n (xUq (xUt v al) (nI q)) (mUq (mUt w al) (nI q)) := by
  obtain ⟨⟨c1, c2, c3, c4, c5, c6, c7, c8⟩, h2, h3⟩ := h
  exact ⟨⟨c1, rfl, rfl, c4, c5, ⟨q, hq, rfl⟩, c7, c8⟩, h2, h3⟩
theorem SQ_clears {n : Nat} {v : XS} {w : MS} (h : SQ n v w) (z1 : xc v = 0) (z2 : ∀ j, j < 40 → xC0 v j = -1 ∧ xC1 v j = -1 ∧ xC2 v j = -1 ∧ xR v j = 0) : SQ n v (mClears w) := by
  obtain ⟨⟨c1, c2, c3, c4, c5, c6, c7, c8⟩, h2, -⟩ := h
  obtain ⟨g, f, e1, g1, g2⟩ := mClr_is w 40 (Nat.le_refl _)
  unfold mClears
  rw [e1]
  exact ⟨⟨c1, c2, c3, c4, c5, c6, c7, c8⟩, fun j hj => ⟨(h2 j hj).1, Or.inl ⟨(g1 j hj).1, (z2 j hj).1, (z2 j hj).2.1, (z2 j hj).2.2.1⟩, (z2 j hj).2.2.2.trans (g1 j hj).2.symm⟩, 0, Nat.zero_le _, z1, rfl, fun j hj => absurd hj (Nat.not_lt_zero j)⟩
theorem SR_go {n : Nat} {v : XS} {w : MS} (h : SQ n v w) (hm : mm w = 0) : SR n (xUp (xUm v 0) 1) (mUp w 1) := by
  obtain ⟨⟨c1, c2⟩, h2, h3⟩ := h
  exact ⟨⟨⟨rfl, c2⟩, h2, h3⟩, ⟨0, 0, by omega, by omega, rfl, hm, fun _ => rfl⟩, fun q => absurd q (show ¬ (1 : Int32) = 0 by decide)⟩
theorem SR_start {n : Nat} {v : XS} {w : MS} (h : SR n v w) (al pa : Int32) : SR n (kSt (xfStart v al pa) v (xStart v al pa)) (mStart w al pa) := by
  have hf := f_start h al pa
  unfold kSt mStart
  by_cases e : xfStart v al pa = 0
  · rw [if_pos e, if_pos (fz hf e)]
    unfold xfStart at e
    cases hk : (xWithin al 0 2 && xWithin pa 0 999) with
    | false => rw [hk] at e; simp at e
    | true =>
      rw [hk] at e
      have hp : xp v = 0 := by
        by_cases q : xp v = 0
        · exact q
        · simp [q] at e
      obtain ⟨q, hq, rfl⟩ := w999 (Bool.and_eq_true_iff.mp hk).2
      obtain ⟨z1, z2⟩ := h.2.2 hp
      exact SR_go (SQ_clears (SQ_tq (SQ_mUz h.1 _) al hq) z1 z2) rfl
  · rw [if_neg e, if_neg (fnz hf e (xfStart_s v al pa))]
    exact SR_mUz h _

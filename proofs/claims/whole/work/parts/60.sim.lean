/-! MINE: what the class's state and the reference's have in common (SR). -/
def RO (v : XS) (w : MS) (j : Nat) : Prop := (xA v j = -1 ∧ mO w j = -1) ∨ ∃ a b : Nat, a ≤ 999 ∧ b ≤ 999 ∧ xA v j = nI a ∧ xB v j = nI b ∧ mO w j = nI (1000 * a + b)
def RS (v : XS) (w : MS) (j : Nat) : Prop := (mH w j = 0 ∧ xC0 v j = -1 ∧ xC1 v j = -1 ∧ xC2 v j = -1) ∨ (mH w j = 1 ∧ xC0 v j ≠ -1 ∧ xC0 v j = mS w (3 * j) ∧ xC1 v j = mS w (3 * j + 1) ∧ xC2 v j = mS w (3 * j + 2))
def RF (v : XS) (w : MS) (j : Nat) : Prop := xR v j = mF w j
def RR (v : XS) (w : MS) : Prop := ∀ j, j < 40 → RO v w j ∧ RS v w j ∧ RF v w j
def RC (v : XS) (w : MS) : Prop := xp v = mp w ∧ xt v = mt w ∧ xq v = mq w ∧ xk v = mk w ∧ xl v = ml w ∧ (∃ q : Nat, q ≤ 999 ∧ xq v = nI q) ∧ (∃ h : Nat, 1 ≤ h ∧ h ≤ 40 ∧ xk v = nI h) ∧ ∀ j : Nat, xR v j = 0 ∨ xR v j = 1
def RN (n : Nat) (v : XS) (w : MS) : Prop := ∃ c : Nat, c ≤ n ∧ xc v = nI c ∧ mc w = nI c ∧ ∀ j, j < c → xN v j = mN w j ∧ vp_in (xN v j) 40
def RM (v : XS) (w : MS) : Prop := ∃ a b : Nat, a ≤ 40 ∧ b ≤ 40 ∧ xm v = nI a ∧ mm w = nI b ∧ (xp v ≠ 0 → a = b)
def RZ (v : XS) : Prop := xp v = 0 → xc v = 0 ∧ ∀ j, j < 40 → xC0 v j = -1 ∧ xC1 v j = -1 ∧ xC2 v j = -1 ∧ xR v j = 0
def SQ (n : Nat) (v : XS) (w : MS) : Prop := RC v w ∧ RR v w ∧ RN n v w
def SR (n : Nat) (v : XS) (w : MS) : Prop := SQ n v w ∧ RM v w ∧ RZ v
theorem kx {j : Nat} (h : j < 40) : (nI j).toNatClampNeg = j := nI_clamp (by omega)
theorem nI_m1 {n : Nat} (h : n < 2 ^ 31) : nI n ≠ -1 := fun e => nI_pos h (by rw [e]; decide)
theorem i1000 : (1000 : Int32) = nI 1000 := rfl
theorem row_a {a b : Nat} (ha : a ≤ 999) (hb : b ≤ 999) : mRa (nI (1000 * a + b)) = nI a := by
  unfold mRa
  rw [i1000, pk_div (by omega) (by decide) (by decide)]
  congr 1
  omega
theorem row_b {a b : Nat} (ha : a ≤ 999) (hb : b ≤ 999) : mRb (nI (1000 * a + b)) = nI b := by
  unfold mRb
  rw [i1000, pk_rem (by omega) (by decide) (by decide)]
  congr 1
  omega
theorem row_n (a b : Nat) : 1000 * nI a + nI b = nI (1000 * a + b) := by
  rw [i1000, pk_mul, nI_add]
theorem r_fits {v : XS} {w : MS} (hC : RC v w) {a b : Nat} (ha : a ≤ 999) (hb : b ≤ 999) : xFits v (nI b) = mSuits w (nI (1000 * a + b)) := by
  unfold xFits mSuits
  rw [row_b ha hb, hC.2.1, hC.2.2.1]
theorem r_alt {v : XS} {w : MS} (hC : RC v w) {a b : Nat} (ha : a ≤ 999) (hb : b ≤ 999) (c : Int32) : xAlt v (nI a) (nI b) c = mAlt w (nI (1000 * a + b)) c := by
  unfold xAlt mAlt xMid xLast
  rw [row_a ha hb, row_b ha hb, hC.2.1, hC.2.2.1]
  by_cases h1 : mt w = 0
  · by_cases h2 : c = 0
    · simp [h1, h2]
    · by_cases h3 : c = 1
      · simp [h1, h3]
      · simp [h1, h2, h3]
  · by_cases h4 : mt w = 1
    · by_cases h2 : c = 0
      · simp [h2, h4]
      · by_cases h3 : c = 1
        · simp [h3, h4]
        · simp [h2, h3, h4]
    · by_cases h2 : c = 0
      · simp [h1, h2, h4]
      · by_cases h3 : c = 1
        · simp [h1, h3, h4]
        · simp [h1, h2, h3, h4]
theorem r_dig {b : Nat} : ∃ n : Nat, n < 2 ^ 31 ∧ xDig (nI b) = nI n := by
  unfold xDig
  by_cases h : (10 : Int32) ≤ nI b
  · by_cases h2 : (100 : Int32) ≤ nI b
    · exact ⟨3, by decide, by rw [if_pos h, if_pos h2]; rfl⟩
    · exact ⟨2, by decide, by rw [if_pos h, if_neg h2]; rfl⟩
  · exact ⟨1, by decide, by rw [if_neg h]; rfl⟩
theorem r_altn {v : XS} {w : MS} (hC : RC v w) {a b : Nat} (ha : a ≤ 999) (hb : b ≤ 999) (c : Int32) : ∃ n : Nat, n < 2 ^ 31 ∧ xAlt v (nI a) (nI b) c = nI n := by
  obtain ⟨q, hq, eq⟩ := hC.2.2.2.2.2.1
  unfold xAlt xMid xLast
  by_cases h2 : c = 0
  · rw [if_pos h2]
    by_cases h1 : xt v = 0
    · rw [if_pos h1, show (100 : Int32) = nI 100 from rfl, pk_div (by omega) (by decide) (by decide)]
      exact ⟨_, by omega, rfl⟩
    · rw [if_neg h1]
      exact ⟨_, by omega, rfl⟩
  · rw [if_neg h2]
    by_cases h3 : c = 1
    · rw [if_pos h3]
      by_cases h1 : xt v = 0
      · rw [if_pos h1, show (100 : Int32) = nI 100 from rfl, pk_rem (by omega) (by decide) (by decide)]
        exact ⟨_, by omega, rfl⟩
      · rw [if_neg h1]
        by_cases h4 : xt v = 1
        · rw [if_pos h4]
          exact ⟨_, by omega, rfl⟩
        · rw [if_neg h4, eq, pk_mul]
          exact ⟨_, Nat.lt_of_le_of_lt (Nat.mul_le_mul hb hq) (by decide), rfl⟩
    · rw [if_neg h3]
      by_cases h1 : xt v = 0
      · rw [if_pos h1]
        exact ⟨_, by omega, rfl⟩
      · rw [if_neg h1]
        by_cases h4 : xt v = 1
        · rw [if_pos h4]
          exact ⟨0, by omega, rfl⟩
        · rw [if_neg h4]
          exact r_dig
theorem r_old {v : XS} {w : MS} {j : Nat} (hj : j < 40) (h : RO v w j) : xOld v (nI j) = !decide (mO w (nI j).toNatClampNeg = -1) := by
  unfold xOld
  rw [kx hj]
  rcases h with ⟨h1, h2⟩ | ⟨a, b, ha, hb, h1, -, h2⟩
  · rw [h1, h2]
  · rw [h1, h2, decide_eq_false (nI_m1 (by omega)), decide_eq_false (nI_m1 (by omega))]
/-- what is due to be in the shadow, and what is brought -/
theorem r_due {v : XS} {w : MS} (hC : RC v w) {j : Nat} (hj : j < 40) (h : RO v w j) : (xOld v (nI j) && xFits v (xB v (nI j).toNatClampNeg)) = mDue w (nI j) := by
  unfold mDue
  rw [r_old hj h, kx hj]
  rcases h with ⟨h1, h2⟩ | ⟨a, b, ha, hb, h1, h3, h2⟩
  · rw [h2]
    simp
  · rw [h2, h3, r_fits hC ha hb]
theorem r_bro {v : XS} {w : MS} (hC : RC v w) {j : Nat} (hj : j < 40) (h : RO v w j) (c : Int32) : xBro v (nI j) c = if mDue w (nI j) then mAlt w (mO w (nI j).toNatClampNeg) c else -1 := by
  unfold xBro
  rw [r_due hC hj h]
  cases hd : mDue w (nI j) with
  | false => rw [if_neg (by decide), if_neg (by decide)]
  | true =>
    rw [if_pos rfl, if_pos rfl]
    rw [kx hj]
    rcases h with ⟨h1, h2⟩ | ⟨a, b, ha, hb, h1, h3, h2⟩
    · unfold mDue at hd
      rw [kx hj, h2] at hd
      simp at hd
    · rw [h1, h2, h3, r_alt hC ha hb]
theorem r_brom {v : XS} {w : MS} (hC : RC v w) {j : Nat} (hj : j < 40) (h : RO v w j) (c : Int32) (hd : mDue w (nI j) = true) : mAlt w (mO w (nI j).toNatClampNeg) c ≠ -1 := by
  rw [kx hj]
  rcases h with ⟨h1, h2⟩ | ⟨a, b, ha, hb, h1, h3, h2⟩
  · unfold mDue at hd
    rw [kx hj, h2] at hd
    simp at hd
  · rw [h2, ← r_alt hC ha hb]
    obtain ⟨n, hn, e⟩ := r_altn hC ha hb c
    rw [e]
    exact nI_m1 hn
theorem r_sh {v : XS} {w : MS} {j : Nat} (hj : j < 40) (h : RS v w j) : xSh v (nI j) = !decide (mH w (nI j).toNatClampNeg = 0) := by
  unfold xSh
  rw [kx hj]
  show (!decide (xC0 v j = -1)) = _
  rcases h with ⟨h1, h2, -⟩ | ⟨h1, h2, -⟩
  · rw [h1, h2]
    rfl
  · rw [h1, decide_eq_false h2]
    rfl
theorem r_seen {v : XS} {w : MS} (hC : RC v w) {j : Nat} (hj : j < 40) (h : RO v w j) (h2 : RS v w j) : xSeen v (nI j) = mSeen w (nI j) := by
  unfold xSeen mSeen
  rw [r_old hj h, r_sh hj h2, hC.1]
theorem r_row {v : XS} {w : MS} {j : Nat} (hj : j < 40) (h : RO v w j) (ho : xOld v (nI j) = true) : xRow v (nI j) = mO w (nI j).toNatClampNeg := by
  unfold xRow
  unfold xOld at ho
  rw [kx hj] at ho ⊢
  rcases h with ⟨h1, h2⟩ | ⟨a, b, ha, hb, h1, h3, h2⟩
  · rw [h1] at ho
    simp at ho
  · rw [h1, h2, h3, row_n]
/-- bringing, in the class -/
theorem xBring_R (v : XS) (k : Int32) : xR (xBring v k) = upd (xR v) k.toNatClampNeg (b2i (xOld v k && !xFits v (xB v k.toNatClampNeg))) := congrArg (upd (xR v) k.toNatClampNeg) (b2i_vp _)
theorem xBring_C (v : XS) (k : Int32) : xC0 (xBring v k) = upd (xC0 v) k.toNatClampNeg (xBro v k 0) ∧ xC1 (xBring v k) = upd (xC1 v) k.toNatClampNeg (xBro v k 1) ∧ xC2 (xBring v k) = upd (xC2 v) k.toNatClampNeg (xBro v k 2) := ⟨rfl, rfl, rfl⟩
theorem xBring_o (v : XS) (k : Int32) : xA (xBring v k) = xA v ∧ xB (xBring v k) = xB v ∧ xN (xBring v k) = xN v ∧ xc (xBring v k) = xc v ∧ xp (xBring v k) = xp v ∧ xm (xBring v k) = xm v ∧ xt (xBring v k) = xt v ∧ xq (xBring v k) = xq v ∧ xk (xBring v k) = xk v ∧ xl (xBring v k) = xl v := ⟨rfl, rfl, rfl, rfl, rfl, rfl, rfl, rfl, rfl, rfl⟩
/-- and in the reference -/
theorem mB2_H (w : MS) (k : Int32) : mH (mB2 w k) = upd (mH w) k.toNatClampNeg (b2i (mDue w k)) := congrArg (upd (mH w) k.toNatClampNeg) (b2i_vp _)
theorem mB2_F (w : MS) (k : Int32) : mF (mB2 w k) = upd (mF w) k.toNatClampNeg (b2i (!decide (mO w k.toNatClampNeg = -1) && !mDue w k)) := by
  have h : mF (mB2 w k) = upd (mF w) k.toNatClampNeg (vp_nar .boolean (b2i (!decide (mO w k.toNatClampNeg = -1) && decide (upd (mH w) k.toNatClampNeg (vp_nar .boolean (b2i (mDue w k))) k.toNatClampNeg = 0)))) := rfl
  rw [h, pk_us, b2i_vp, b2i_vp]
  congr 2
  cases mDue w k <;> rfl
theorem mBrings_o (w : MS) (k : Int32) : mO (mBrings w k) = mO w ∧ mN (mBrings w k) = mN w ∧ mp (mBrings w k) = mp w ∧ mt (mBrings w k) = mt w ∧ mq (mBrings w k) = mq w ∧ mk (mBrings w k) = mk w ∧ ml (mBrings w k) = ml w ∧ mm (mBrings w k) = mm w ∧ mc (mBrings w k) = mc w := by
  unfold mBrings
  split
  · exact ⟨rfl, rfl, rfl, rfl, rfl, rfl, rfl, rfl, rfl⟩
  · exact ⟨rfl, rfl, rfl, rfl, rfl, rfl, rfl, rfl, rfl⟩
theorem mBrings_H (w : MS) (k : Int32) : mH (mBrings w k) = upd (mH w) k.toNatClampNeg (b2i (mDue w k)) := by
  unfold mBrings
  split
  · exact mB2_H w k
  · exact mB2_H w k
theorem mBrings_F (w : MS) (k : Int32) : mF (mBrings w k) = upd (mF w) k.toNatClampNeg (b2i (!decide (mO w k.toNatClampNeg = -1) && !mDue w k)) := by
  unfold mBrings
  split
  · exact mB2_F w k
  · exact mB2_F w k
theorem mBrings_S (w : MS) (k : Int32) : mS (mBrings w k) = if mDue w k then upd (upd (upd (mS w) (3 * k + 0).toNatClampNeg (mAlt w (mO w k.toNatClampNeg) 0)) (3 * k + 1).toNatClampNeg (mAlt w (mO w k.toNatClampNeg) 1)) (3 * k + 2).toNatClampNeg (mAlt w (mO w k.toNatClampNeg) 2) else mS w := by
  unfold mBrings
  rw [mB2_H, pk_us]
  cases hd : mDue w k with
  | false => rfl
  | true =>
    rw [if_neg (by decide)]
    rfl
theorem k3i {j : Nat} (hj : j < 40) : (3 * nI j + 0).toNatClampNeg = 3 * j ∧ (3 * nI j + 1).toNatClampNeg = 3 * j + 1 ∧ (3 * nI j + 2).toNatClampNeg = 3 * j + 2 := by
  have h : ∀ c : Nat, c < 3 → (3 * nI j + nI c).toNatClampNeg = 3 * j + c := fun c hc => by
    rw [show (3 : Int32) = nI 3 from rfl, pk_mul, nI_add, nI_clamp (by omega)]
  exact ⟨h 0 (by decide), h 1 (by decide), h 2 (by decide)⟩
theorem RC_bring {v : XS} {w : MS} (hC : RC v w) (k : Int32) : RC (xBring v k) (mBrings w k) := by
  obtain ⟨-, -, e3, e4, e5, e6, e7, -, -⟩ := mBrings_o w k
  obtain ⟨c1, c2, c3, c4, c5, c6, c7, c8⟩ := hC
  refine ⟨c1.trans e3.symm, c2.trans e4.symm, c3.trans e5.symm, c4.trans e6.symm, c5.trans e7.symm, c6, c7, fun j => ?_⟩
  rw [xBring_R]
  by_cases h : j = k.toNatClampNeg
  · subst h
    rw [pk_us]
    cases (xOld v k && !xFits v (xB v k.toNatClampNeg))
    · exact Or.inl rfl
    · exact Or.inr rfl
  · rw [pk_un h]
    exact c8 j
theorem RR_bring {v : XS} {w : MS} (hC : RC v w) (hR : RR v w) {i : Nat} (hi : i < 40) : RR (xBring v (nI i)) (mBrings w (nI i)) := by
  intro j hj
  obtain ⟨h1, h2, h3⟩ := hR j hj
  obtain ⟨g1, g2, g3⟩ := hR i hi
  obtain ⟨x0, x1, x2⟩ := k3i hi
  refine ⟨?_, ?_, ?_⟩
  · unfold RO
    rw [(mBrings_o w (nI i)).1]
    exact h1
  · unfold RS
    rw [(xBring_C v (nI i)).1, (xBring_C v (nI i)).2.1, (xBring_C v (nI i)).2.2, mBrings_H, mBrings_S, r_bro hC hi g1, r_bro hC hi g1, r_bro hC hi g1, x0, x1, x2, kx hi]
    by_cases e : j = i
    · subst e
      rw [pk_us, pk_us, pk_us, pk_us]
      cases hd : mDue w (nI j) with
      | false => exact Or.inl ⟨rfl, rfl, rfl, rfl⟩
      | true =>
        have hm := r_brom hC hj h1 0 hd
        rw [kx hj] at hm
        simp only [if_true]
        refine Or.inr ⟨rfl, hm, ?_, ?_, ?_⟩
        · rw [pk_un (by omega), pk_un (by omega), pk_us]
        · rw [pk_un (by omega), pk_us]
        · rw [pk_us]
    · rw [pk_un e, pk_un e, pk_un e, pk_un e]
      cases hd : mDue w (nI i) with
      | false => exact h2
      | true =>
        simp only [if_true]
        rw [pk_un (by omega), pk_un (by omega), pk_un (by omega), pk_un (by omega), pk_un (by omega), pk_un (by omega), pk_un (by omega), pk_un (by omega), pk_un (by omega)]
        exact h2
  · unfold RF
    rw [xBring_R, mBrings_F, kx hi]
    by_cases e : j = i
    · subst e
      rw [pk_us, pk_us]
      congr 1
      have ho := r_old hj h1
      have hdd := r_due hC hj h1
      rw [kx hj] at ho hdd
      rw [← ho, ← hdd]
      cases xOld v (nI j) <;> cases xFits v (xB v j) <;> rfl
    · rw [pk_un e, pk_un e]
      exact h3
theorem RN_bring {n : Nat} {v : XS} {w : MS} (hN : RN n v w) (k : Int32) : RN n (xBring v k) (mBrings w k) := by
  obtain ⟨c, h1, h2, h3, h4⟩ := hN
  refine ⟨c, h1, h2, (mBrings_c w k).trans h3, fun j hj => ?_⟩
  rw [mBrings_N]
  exact h4 j hj
theorem SQ_bring {n : Nat} {v : XS} {w : MS} (h : SQ n v w) {i : Nat} (hi : i < 40) : SQ n (xBring v (nI i)) (mBrings w (nI i)) := ⟨RC_bring h.1 _, RR_bring h.1 h.2.1 hi, RN_bring h.2.2 _⟩
theorem SR_bring {n : Nat} {v : XS} {w : MS} (h : SR n v w) (hp : xp v ≠ 0) {i : Nat} (hi : i < 40) : SR n (xBring v (nI i)) (mBrings w (nI i)) := by
  obtain ⟨h1, ⟨a, b, m1, m2, m3, m4, m5⟩, h3⟩ := h
  exact ⟨SQ_bring h1 hi, ⟨a, b, m1, m2, m3, (mBrings_m w _).trans m4, m5⟩, fun e => absurd e hp⟩

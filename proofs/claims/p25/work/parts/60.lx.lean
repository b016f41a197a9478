/-! MINE: what holds of the class's state between the law's steps (zX), and that every call keeps it. -/
def zA (v : XS) (j : Nat) : Prop := xA v j = -1 ∨ ∃ a b : Nat, a ≤ 999 ∧ b ≤ 999 ∧ xA v j = nI a ∧ xB v j = nI b
def zS (v : XS) (j : Nat) : Prop := (xC0 v j = -1 ∧ xC1 v j = -1 ∧ xC2 v j = -1) ∨ (∃ x y z : Nat, x < 2 ^ 31 ∧ y < 2 ^ 31 ∧ z < 2 ^ 31 ∧ xC0 v j = nI x ∧ xC1 v j = nI y ∧ xC2 v j = nI z ∧ xR v j = 0)
def zB (v : XS) (j : Nat) : Prop := xC0 v j = xBro v (nI j) 0 ∧ xC1 v j = xBro v (nI j) 1 ∧ xC2 v j = xBro v (nI j) 2 ∧ xR v j = b2i (xOld v (nI j) && !xFits v (xB v j))
def zQ (v : XS) : Prop := ∃ q : Nat, q ≤ 999 ∧ xq v = nI q
def zV (v : XS) : Prop := (∀ j, j < 40 → zA v j ∧ zS v j) ∧ zQ v ∧ (∃ h : Nat, 1 ≤ h ∧ h ≤ 40 ∧ xk v = nI h) ∧ ∀ j : Nat, xR v j = 0 ∨ xR v j = 1
def zN (n c : Nat) (v : XS) : Prop := c ≤ n ∧ xc v = nI c ∧ ∀ j, j < c → vp_in (xN v j) 40
def zP (S : Nat → Prop) (c m : Nat) (v : XS) : Prop := (xp v = 0 ∧ c = 0 ∧ ∀ j, j < 40 → xC0 v j = -1 ∧ xC1 v j = -1 ∧ xC2 v j = -1 ∧ xR v j = 0) ∨ (xp v = 1 ∧ ∀ j, j < m → S j ∨ zB v j ∨ ∃ i, i < c ∧ xN v i = nI j) ∨ (xp v = 2 ∧ c = 0 ∧ m = 40 ∧ ∀ j, j < 40 → S j ∨ zB v j)
def zX (S : Nat → Prop) (n c m : Nat) (v : XS) : Prop := zV v ∧ zN n c v ∧ (m ≤ 40 ∧ xm v = nI m) ∧ zP S c m v
abbrev zE : Nat → Prop := fun _ => False
def zI (n : Nat) (v : XS) : Prop := ∃ c m : Nat, zX zE n c m v
theorem kx {j : Nat} (h : j < 40) : (nI j).toNatClampNeg = j := nI_clamp (by omega)
theorem nI_m1 {n : Nat} (h : n < 2 ^ 31) : nI n ≠ -1 := fun e => nI_pos h (by rw [e]; decide)
theorem i1000 : (1000 : Int32) = nI 1000 := rfl
theorem row_n (a b : Nat) : 1000 * nI a + nI b = nI (1000 * a + b) := by
  rw [i1000, pk_mul, nI_add]
theorem l_dig {b : Nat} : ∃ n : Nat, n < 2 ^ 31 ∧ xDig (nI b) = nI n := by
  unfold xDig
  by_cases h : (10 : Int32) ≤ nI b
  · by_cases h2 : (100 : Int32) ≤ nI b
    · exact ⟨3, by decide, by rw [if_pos h, if_pos h2]; rfl⟩
    · exact ⟨2, by decide, by rw [if_pos h, if_neg h2]; rfl⟩
  · exact ⟨1, by decide, by rw [if_neg h]; rfl⟩
theorem l_altn {v : XS} (hq : zQ v) {a b : Nat} (ha : a ≤ 999) (hb : b ≤ 999) (c : Int32) : ∃ n : Nat, n < 2 ^ 31 ∧ xAlt v (nI a) (nI b) c = nI n := by
  obtain ⟨q, hq, eq⟩ := hq
  unfold xAlt xMid xLast
  by_cases h2 : c = 0
  · rw [if_pos h2]
    by_cases h1 : xt v = 0
    · rw [if_pos h1, show (100 : Int32) = nI 100 from rfl, pk_div (by omega) (by decide) (by decide)]
      exact ⟨_, by omega, rfl⟩
    · rw [if_neg h1]
      exact ⟨_, by omega, rfl⟩
  · rw [if_neg h2]
    by_cases h3 : c = 1
    · rw [if_pos h3]
      by_cases h1 : xt v = 0
      · rw [if_pos h1, show (100 : Int32) = nI 100 from rfl, pk_rem (by omega) (by decide) (by decide)]
        exact ⟨_, by omega, rfl⟩
      · rw [if_neg h1]
        by_cases h4 : xt v = 1
        · rw [if_pos h4]
          exact ⟨_, by omega, rfl⟩
        · rw [if_neg h4, eq, pk_mul]
          exact ⟨_, Nat.lt_of_le_of_lt (Nat.mul_le_mul hb hq) (by decide), rfl⟩
    · rw [if_neg h3]
      by_cases h1 : xt v = 0
      · rw [if_pos h1]
        exact ⟨_, by omega, rfl⟩
      · rw [if_neg h1]
        by_cases h4 : xt v = 1
        · rw [if_pos h4]
          exact ⟨0, by omega, rfl⟩
        · rw [if_neg h4]
          exact l_dig
/-- what is due to be in the shadow -/
def lDue (v : XS) (k : Int32) : Bool := xOld v k && xFits v (xB v k.toNatClampNeg)
theorem l_bro_f {v : XS} {k : Int32} (h : lDue v k = false) (c : Int32) : xBro v k c = -1 := by
  unfold lDue at h
  unfold xBro
  rw [h]
  rfl
theorem l_bro_t {v : XS} (hq : zQ v) {j : Nat} (hj : j < 40) (hA : zA v j) (h : lDue v (nI j) = true) (c : Int32) : ∃ n : Nat, n < 2 ^ 31 ∧ xBro v (nI j) c = nI n := by
  unfold lDue at h
  unfold xBro
  rw [h, if_pos rfl, kx hj]
  rcases hA with e | ⟨a, b, ha, hb, ea, eb⟩
  · unfold xOld at h
    rw [kx hj, e] at h
    simp at h
  · rw [ea, eb]
    exact l_altn hq ha hb c
theorem zB.ls {v : XS} (hq : zQ v) {j : Nat} (hj : j < 40) (hA : zA v j) (h : zB v j) : zS v j := by
  obtain ⟨h0, h1, h2, h3⟩ := h
  cases hd : lDue v (nI j) with
  | false => exact Or.inl ⟨h0.trans (l_bro_f hd 0), h1.trans (l_bro_f hd 1), h2.trans (l_bro_f hd 2)⟩
  | true =>
    obtain ⟨x, hx, ex⟩ := l_bro_t hq hj hA hd 0
    obtain ⟨y, hy, ey⟩ := l_bro_t hq hj hA hd 1
    obtain ⟨z, hz, ez⟩ := l_bro_t hq hj hA hd 2
    refine Or.inr ⟨x, y, z, hx, hy, hz, h0.trans ex, h1.trans ey, h2.trans ez, ?_⟩
    rw [h3]
    unfold lDue at hd
    rw [kx hj] at hd
    have := Bool.and_eq_true_iff.mp hd
    rw [this.1, this.2]
    rfl
theorem xBring_R (v : XS) (k : Int32) : xR (xBring v k) = upd (xR v) k.toNatClampNeg (b2i (xOld v k && !xFits v (xB v k.toNatClampNeg))) := congrArg (upd (xR v) k.toNatClampNeg) (b2i_vp _)
theorem xBring_C (v : XS) (k : Int32) : xC0 (xBring v k) = upd (xC0 v) k.toNatClampNeg (xBro v k 0) ∧ xC1 (xBring v k) = upd (xC1 v) k.toNatClampNeg (xBro v k 1) ∧ xC2 (xBring v k) = upd (xC2 v) k.toNatClampNeg (xBro v k 2) := ⟨rfl, rfl, rfl⟩
theorem xBring_o (v : XS) (k : Int32) : xA (xBring v k) = xA v ∧ xB (xBring v k) = xB v ∧ xN (xBring v k) = xN v ∧ xc (xBring v k) = xc v ∧ xp (xBring v k) = xp v ∧ xm (xBring v k) = xm v ∧ xt (xBring v k) = xt v ∧ xq (xBring v k) = xq v ∧ xk (xBring v k) = xk v ∧ xl (xBring v k) = xl v := ⟨rfl, rfl, rfl, rfl, rfl, rfl, rfl, rfl, rfl, rfl⟩
theorem xBro_bring (v : XS) (k j c : Int32) : xBro (xBring v k) j c = xBro v j c := rfl
theorem zB_self (v : XS) {i : Nat} (hi : i < 40) : zB (xBring v (nI i)) i := by
  unfold zB
  rw [(xBring_C v (nI i)).1, (xBring_C v (nI i)).2.1, (xBring_C v (nI i)).2.2, xBring_R, kx hi, pk_us, pk_us, pk_us, pk_us]
  exact ⟨rfl, rfl, rfl, rfl⟩
theorem zB_other {v : XS} {i j : Nat} (hi : i < 40) (e : j ≠ i) (h : zB v j) : zB (xBring v (nI i)) j := by
  unfold zB
  rw [(xBring_C v (nI i)).1, (xBring_C v (nI i)).2.1, (xBring_C v (nI i)).2.2, xBring_R, kx hi, pk_un e, pk_un e, pk_un e, pk_un e]
  exact h
theorem zB_keep {v : XS} {i j : Nat} (hi : i < 40) (h : zB v j) : zB (xBring v (nI i)) j := by
  by_cases e : j = i
  · subst e
    exact zB_self v hi
  · exact zB_other hi e h
theorem zA_bring {v : XS} {j : Nat} (k : Int32) (h : zA v j) : zA (xBring v k) j := h
theorem zS_other {v : XS} {i j : Nat} (hi : i < 40) (e : j ≠ i) (h : zS v j) : zS (xBring v (nI i)) j := by
  unfold zS
  rw [(xBring_C v (nI i)).1, (xBring_C v (nI i)).2.1, (xBring_C v (nI i)).2.2, xBring_R, kx hi, pk_un e, pk_un e, pk_un e, pk_un e]
  exact h
theorem zV_bring {v : XS} (h : zV v) {i : Nat} (hi : i < 40) : zV (xBring v (nI i)) := by
  obtain ⟨h1, h2, h3, h4⟩ := h
  refine ⟨fun j hj => ⟨(h1 j hj).1, ?_⟩, h2, h3, fun j => ?_⟩
  · by_cases e : j = i
    · subst e
      exact zB.ls (v := xBring v (nI j)) h2 hj (h1 j hj).1 (zB_self v hj)
    · exact zS_other hi e (h1 j hj).2
  · rw [xBring_R]
    by_cases e : j = (nI i).toNatClampNeg
    · rw [e, pk_us]
      cases (xOld v (nI i) && !xFits v (xB v (nI i).toNatClampNeg))
      · exact Or.inl rfl
      · exact Or.inr rfl
    · rw [pk_un e]
      exact h4 j
theorem xPut_A {v : XS} {i j : Nat} (hi : i < 40) (hj : j < 40) (e : j ≠ i) (a b : Int32) : xA (xPut v (nI i) a b) (nI j).toNatClampNeg = xA v (nI j).toNatClampNeg ∧ xB (xPut v (nI i) a b) (nI j).toNatClampNeg = xB v (nI j).toNatClampNeg := by
  show upd (xA v) (nI i).toNatClampNeg a (nI j).toNatClampNeg = _ ∧ upd (xB v) (nI i).toNatClampNeg b (nI j).toNatClampNeg = _
  rw [kx hi, kx hj, pk_un e, pk_un e]
  exact ⟨rfl, rfl⟩
theorem xBro_put {v : XS} {i j : Nat} (hi : i < 40) (hj : j < 40) (e : j ≠ i) (a b c : Int32) : xBro (xPut v (nI i) a b) (nI j) c = xBro v (nI j) c := by
  obtain ⟨h1, h2⟩ := xPut_A (v := v) hi hj e a b
  unfold xBro xOld
  rw [h1, h2]
  rfl
theorem lDue_put {v : XS} {i j : Nat} (hi : i < 40) (hj : j < 40) (e : j ≠ i) (a b : Int32) : lDue (xPut v (nI i) a b) (nI j) = lDue v (nI j) := by
  obtain ⟨h1, h2⟩ := xPut_A (v := v) hi hj e a b
  unfold lDue xOld
  rw [h1, h2]
  rfl
theorem zB_put {v : XS} {i j : Nat} (hi : i < 40) (hj : j < 40) (e : j ≠ i) (a b : Int32) (h : zB v j) : zB (xPut v (nI i) a b) j := by
  obtain ⟨h0, h1, h2, h3⟩ := h
  obtain ⟨g1, g2⟩ := xPut_A (v := v) hi hj e a b
  refine ⟨h0.trans (xBro_put hi hj e a b 0).symm, h1.trans (xBro_put hi hj e a b 1).symm, h2.trans (xBro_put hi hj e a b 2).symm, h3.trans ?_⟩
  rw [kx hj] at g2
  unfold xOld
  rw [g1, g2]
  rfl
theorem zP.mono {S S' : Nat → Prop} {c m : Nat} {v : XS} (hS : ∀ j, S j → S' j) (h : zP S c m v) : zP S' c m v := by
  rcases h with h | ⟨h1, h2⟩ | ⟨h1, h2, h3, h4⟩
  · exact Or.inl h
  · exact Or.inr (Or.inl ⟨h1, fun j hj => (h2 j hj).imp (hS j) id⟩)
  · exact Or.inr (Or.inr ⟨h1, h2, h3, fun j hj => (h4 j hj).imp (hS j) id⟩)
theorem zX.mono {S S' : Nat → Prop} {n n' c m : Nat} {v : XS} (h : zX S n c m v) (hS : ∀ j, S j → S' j) (hn : n ≤ n') : zX S' n' c m v :=
  ⟨h.1, ⟨Nat.le_trans h.2.1.1 hn, h.2.1.2⟩, h.2.2.1, h.2.2.2.mono hS⟩
theorem zI.up {n n' : Nat} {v : XS} (h : zI n v) (hn : n ≤ n') : zI n' v := by
  obtain ⟨c, m, h⟩ := h
  exact ⟨c, m, h.mono (fun _ q => q) hn⟩
def zR (a b : Int32) : Prop := a = -1 ∨ ∃ x y : Nat, x ≤ 999 ∧ y ≤ 999 ∧ a = nI x ∧ b = nI y
theorem zX_put {S : Nat → Prop} {n c m : Nat} {v : XS} (h : zX S n c m v) {i : Nat} (hi : i < 40) {a b : Int32} (hr : zR a b) : zX (fun j => S j ∨ j = i) n c m (xPut v (nI i) a b) := by
  obtain ⟨⟨h1, h2⟩, hN, hm, hp⟩ := h
  refine ⟨⟨fun j hj => ⟨?_, (h1 j hj).2⟩, h2⟩, hN, hm, ?_⟩
  · show upd (xA v) (nI i).toNatClampNeg a j = -1 ∨ ∃ x y : Nat, x ≤ 999 ∧ y ≤ 999 ∧ upd (xA v) (nI i).toNatClampNeg a j = nI x ∧ upd (xB v) (nI i).toNatClampNeg b j = nI y
    rw [kx hi]
    by_cases e : j = i
    · subst e
      rw [pk_us, pk_us]
      exact hr
    · rw [pk_un e, pk_un e]
      exact (h1 j hj).1
  · rcases hp with h | ⟨p1, p2⟩ | ⟨p1, p2, p3, p4⟩
    · exact Or.inl h
    · refine Or.inr (Or.inl ⟨p1, fun j hj => ?_⟩)
      by_cases e : j = i
      · exact Or.inl (Or.inr e)
      · rcases p2 j hj with q | q | q
        · exact Or.inl (Or.inl q)
        · exact Or.inr (Or.inl (zB_put hi (by omega) e a b q))
        · exact Or.inr (Or.inr q)
    · refine Or.inr (Or.inr ⟨p1, p2, p3, fun j hj => ?_⟩)
      by_cases e : j = i
      · exact Or.inl (Or.inr e)
      · rcases p4 j hj with q | q
        · exact Or.inl (Or.inl q)
        · exact Or.inr (zB_put hi hj e a b q)
theorem zX_bring {S : Nat → Prop} {n c m : Nat} {v : XS} (h : zX S n c m v) (hp : xp v ≠ 0) {i : Nat} (hi : i < 40) : zX (fun j => S j ∧ j ≠ i) n c m (xBring v (nI i)) := by
  obtain ⟨hV, hN, hm, h⟩ := h
  refine ⟨zV_bring hV hi, hN, hm, ?_⟩
  rcases h with h | ⟨p1, p2⟩ | ⟨p1, p2, p3, p4⟩
  · exact absurd h.1 hp
  · refine Or.inr (Or.inl ⟨p1, fun j hj => ?_⟩)
    by_cases e : j = i
    · subst e
      exact Or.inr (Or.inl (zB_self v hi))
    · rcases p2 j hj with q | q | q
      · exact Or.inl ⟨q, e⟩
      · exact Or.inr (Or.inl (zB_other hi e q))
      · exact Or.inr (Or.inr q)
  · refine Or.inr (Or.inr ⟨p1, p2, p3, fun j hj => ?_⟩)
    by_cases e : j = i
    · subst e
      exact Or.inr (zB_self v hi)
    · rcases p4 j hj with q | q
      · exact Or.inl ⟨q, e⟩
      · exact Or.inr (zB_other hi e q)
theorem xNote_is {v : XS} {c : Nat} (hc : c < 1024) (h : xc v = nI c) (k : Int32) : xNote v k = xUc (xUN v (upd (xN v) c k)) (nI (c + 1)) := by
  unfold xNote
  rw [if_neg (by rw [h]; exact nI_ge (a := c) (b := 1024) hc (by decide)), h, nI_clamp (by omega), ← nI_1, ← h]
  rfl
theorem zX_note {S : Nat → Prop} {n c m : Nat} {v : XS} (h : zX S n c m v) (hn : n < 1024) (hp : xp v = 1) {i : Nat} (hi : i < 40) : zX (fun j => S j ∧ j ≠ i) (n + 1) (c + 1) m (xNote v (nI i)) := by
  obtain ⟨hV, ⟨n1, n2, n3⟩, hm, h⟩ := h
  rw [xNote_is (by omega) n2]
  refine ⟨hV, ⟨by omega, rfl, fun j hj => ?_⟩, hm, ?_⟩
  · show vp_in (upd (xN v) c (nI i) j) 40
    by_cases e : j = c
    · subst e
      rw [pk_us]
      exact vp_in_nI hi (by decide)
    · rw [pk_un e]
      exact n3 j (by omega)
  · rcases h with h | ⟨p1, p2⟩ | ⟨p1, p2, p3, p4⟩
    · rw [hp] at h
      exact absurd h.1 (by decide)
    · refine Or.inr (Or.inl ⟨p1, fun j hj => ?_⟩)
      by_cases e : j = i
      · subst e
        exact Or.inr (Or.inr ⟨c, Nat.lt_succ_self c, pk_us⟩)
      · rcases p2 j hj with q | q | ⟨i0, q1, q2⟩
        · exact Or.inl ⟨q, e⟩
        · exact Or.inr (Or.inl q)
        · exact Or.inr (Or.inr ⟨i0, by omega, (pk_un (by omega)).trans q2⟩)
    · rw [hp] at p1
      exact absurd p1 (by decide)
theorem zX_follow {S : Nat → Prop} {n c m : Nat} {v : XS} (h : zX S n c m v) (hn : n < 1024) {i : Nat} (hi : i < 40) : ∃ c', zX (fun j => S j ∧ j ≠ i) (n + 1) c' m (xFollow v (nI i)) := by
  unfold xFollow
  by_cases h1 : xp v = 1
  · rw [if_pos h1]
    exact ⟨c + 1, zX_note h hn h1 hi⟩
  · rw [if_neg h1]
    by_cases h2 : xp v = 2
    · rw [if_pos h2]
      exact ⟨c, (zX_bring h (by rw [h2]; decide) hi).mono (fun _ q => q) (Nat.le_succ n)⟩
    · rw [if_neg h2]
      refine ⟨c, h.1, ⟨Nat.le_succ_of_le h.2.1.1, h.2.1.2⟩, h.2.2.1, ?_⟩
      rcases h.2.2.2 with q | ⟨p1, -⟩ | ⟨p1, -⟩
      · exact Or.inl q
      · exact absurd p1 h1
      · exact absurd p1 h2
theorem zI_write {n : Nat} {v : XS} (h : zI n v) (hn : n < 1024) {i : Nat} (hi : i < 40) {a b : Int32} (hr : zR a b) : zI (n + 1) (xFollow (xPut v (nI i) a b) (nI i)) := by
  obtain ⟨c, m, h⟩ := h
  obtain ⟨c', g⟩ := zX_follow (zX_put h hi hr) hn hi
  exact ⟨c', m, g.mono (fun j q => q.1.elim id q.2) (Nat.le_refl _)⟩
theorem kMM {a b : Nat} (ha : a < 40) (hb : b < 40) : (kMin (nI a) (nI b) = nI a ∧ kMax (nI a) (nI b) = nI b) ∨ (kMin (nI a) (nI b) = nI b ∧ kMax (nI a) (nI b) = nI a) := by
  unfold kMin kMax
  by_cases h : a < b
  · rw [if_pos ((nI_ltI (by omega) (by omega)).mpr h), if_neg (fun q => by have := (nI_ltI (by omega) (by omega)).mp q; omega)]
    exact Or.inl ⟨rfl, rfl⟩
  · rw [if_neg (fun q => h ((nI_ltI (by omega) (by omega)).mp q))]
    by_cases h2 : b < a
    · rw [if_pos ((nI_ltI (by omega) (by omega)).mpr h2)]
      exact Or.inr ⟨rfl, rfl⟩
    · have : a = b := by omega
      subst this
      rw [if_neg (fun q => h ((nI_ltI (by omega) (by omega)).mp q))]
      exact Or.inl ⟨rfl, rfl⟩
theorem zI_rekey {n : Nat} {v : XS} (h : zI n v) (hn : n + 1 < 1024) {i j : Nat} (hi : i < 40) (hj : j < 40) (hr : zR (xA v (nI i).toNatClampNeg) (xB v (nI i).toNatClampNeg)) : zI (n + 2) (xRekey v (nI i) (nI j)) := by
  obtain ⟨c, m, h⟩ := h
  have g := zX_put (zX_put h hj hr) hi (a := -1) (b := -1) (Or.inl rfl)
  unfold xRekey
  rcases kMM hi hj with ⟨e1, e2⟩ | ⟨e1, e2⟩ <;> rw [e1, e2]
  · obtain ⟨c1, g1⟩ := zX_follow g (by omega) hi
    obtain ⟨c2, g2⟩ := zX_follow g1 hn hj
    exact ⟨c2, m, g2.mono (fun k q => by
      obtain ⟨⟨(q1 | q1) | q1, q2⟩, q3⟩ := q
      · exact q1
      · exact absurd q1 q3
      · exact absurd q1 q2) (Nat.le_refl _)⟩
  · obtain ⟨c1, g1⟩ := zX_follow g (by omega) hj
    obtain ⟨c2, g2⟩ := zX_follow g1 hn hi
    exact ⟨c2, m, g2.mono (fun k q => by
      obtain ⟨⟨(q1 | q1) | q1, q2⟩, q3⟩ := q
      · exact q1
      · exact absurd q1 q2
      · exact absurd q1 q3) (Nat.le_refl _)⟩

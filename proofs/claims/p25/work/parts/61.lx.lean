/-! MINE: ticks, cuts, ends keep what holds. -/
theorem zX_copyL {n c m : Nat} {v : XS} (h : zX zE n c m v) (hp : xp v = 1) : ∀ i, m + i ≤ 40 → zX zE n c m (xCopyL v m i) ∧ xp (xCopyL v m i) = 1 ∧ ∀ j, m ≤ j → j < m + i → zB (xCopyL v m i) j
  | 0, _ => ⟨h, hp, fun j h1 h2 => absurd h2 (by omega)⟩
  | i + 1, hi => by
    obtain ⟨g1, g2, g3⟩ := zX_copyL h hp i (by omega)
    refine ⟨(zX_bring g1 (by rw [g2]; decide) (by omega)).mono (fun _ q => q.1) (Nat.le_refl _), g2, fun j h1 h2 => ?_⟩
    show zB (xBring (xCopyL v m i) (nI (m + i))) j
    by_cases e : j = m + i
    · subst e
      exact zB_self _ (by omega)
    · exact zB_other (by omega) e (g3 j h1 (by omega))
theorem zX_copy {n c m : Nat} {v : XS} (h : zX zE n c m v) (hp : xp v = 1) {i : Nat} (hi : m + i ≤ 40) (he : xCopyE v = nI (m + i)) : zX zE n c (m + i) (xCopy v m i) ∧ ∀ j, m ≤ j → j < m + i → zB (xCopy v m i) j := by
  obtain ⟨⟨gV, gN, gm, gP⟩, g2, g3⟩ := zX_copyL h hp i hi
  refine ⟨⟨gV, gN, ⟨hi, he⟩, Or.inr (Or.inl ⟨g2, fun j hj => ?_⟩)⟩, g3⟩
  rcases gP with q | ⟨-, q⟩ | ⟨q, -⟩
  · rw [q.1] at g2
    exact absurd g2 (by decide)
  · by_cases e : j < m
    · exact q j e
    · exact Or.inr (Or.inl (g3 j (by omega) hj))
  · rw [q] at g2
    exact absurd g2 (by decide)
theorem zX_playL {n c m : Nat} {v : XS} (h : zX zE n c m v) (hp : xp v = 1) (hc : c ≤ 1024) : ∀ i, i ≤ c → zX zE n c m (xPlayL v i) ∧ xp (xPlayL v i) = 1 ∧ ∀ k, k < i → ∀ j, j < 40 → xN v k = nI j → zB (xPlayL v i) j
  | 0, _ => ⟨h, hp, fun k hk => absurd hk (Nat.not_lt_zero k)⟩
  | i + 1, hi => by
    obtain ⟨g1, g2, g3⟩ := zX_playL h hp hc i (by omega)
    obtain ⟨j0, hj0, e0⟩ := vp_in_of (h.2.1.2.2 i (by omega)) (by decide)
    have e1 : xPlayL v (i + 1) = xBring (xPlayL v i) (nI j0) := by
      show xBring (xPlayL v i) (xN (xPlayL v i) (nI i).toNatClampNeg) = _
      rw [xPlayL_N, nI_clamp (by omega), e0]
    rw [e1]
    refine ⟨(zX_bring g1 (by rw [g2]; decide) hj0).mono (fun _ q => q.1) (Nat.le_refl _), g2, fun k hk j hj e => ?_⟩
    by_cases q : k = i
    · subst q
      have : j0 = j := (nI_eq (by omega) (by omega)).mp (e0.symm.trans e)
      subst this
      exact zB_self _ hj0
    · exact zB_keep hj0 (g3 k (by omega) j hj e)
theorem zX_play {n c m : Nat} {v : XS} (h : zX zE n c m v) (hp : xp v = 1) (hc : c ≤ 1024) {cn : Nat} (h1 : cn ≤ c) : zX zE n (c - cn) m (xPlay v cn) := by
  obtain ⟨⟨gV, ⟨n1, n2, n3⟩, gm, gP⟩, g2, g3⟩ := zX_playL h hp hc cn h1
  have hcx : xc (xPlayL v cn) - nI cn = nI (c - cn) := by rw [n2, pk_sub h1]
  have q1 : ∀ j, j < c - cn → xN (xPlay v cn) j = xN v (cn + j) := fun j hj => by
    show va_cpy (xN (xPlayL v cn)) (xN (xPlayL v cn)) (nI cn).toNatClampNeg (0 : Int32).toNatClampNeg (xc (xPlayL v cn) - nI cn).toNatClampNeg j = _
    rw [hcx, nI_clamp (by omega), nI_clamp (by omega), xPlayL_N, show (0 : Int32).toNatClampNeg = 0 from rfl, pk_cpy_in (Nat.zero_le _) (by omega), Nat.sub_zero]
  refine ⟨gV, ⟨by omega, hcx, fun j hj => ?_⟩, gm, Or.inr (Or.inl ⟨g2, fun j hj => ?_⟩)⟩
  · rw [q1 j hj]
    exact h.2.1.2.2 _ (by omega)
  · rcases gP with q | ⟨-, q⟩ | ⟨q, -⟩
    · rw [q.1] at g2
      exact absurd g2 (by decide)
    · rcases q j hj with q | q | ⟨i, q2, q3⟩
      · exact q.elim
      · exact Or.inr (Or.inl q)
      · rw [xPlayL_N] at q3
        by_cases e : i < cn
        · exact Or.inr (Or.inl (g3 i e j (by have := h.2.2.1.1; omega) q3))
        · exact Or.inr (Or.inr ⟨i - cn, by omega, by rw [q1 _ (by omega), show cn + (i - cn) = i by omega]; exact q3⟩)
    · rw [q] at g2
      exact absurd g2 (by decide)
theorem zX_cut {n c : Nat} {v : XS} (h : zX zE n c 40 v) (hp : xp v = 1) (hc : c ≤ 1024) : zX zE n 0 40 (xUp (xPlay v c) 2) := by
  obtain ⟨gV, gN, gm, gP⟩ := zX_play h hp hc (Nat.le_refl c)
  rw [Nat.sub_self] at gN gP
  refine ⟨gV, gN, gm, Or.inr (Or.inr ⟨rfl, rfl, rfl, fun j hj => Or.inr ?_⟩)⟩
  have g2 : xp (xPlay v c) = 1 := (zX_playL h hp hc c (Nat.le_refl c)).2.1
  rcases gP with q | ⟨-, q⟩ | ⟨q, -⟩
  · rw [q.1] at g2
    exact absurd g2 (by decide)
  · rcases q j hj with q | q | ⟨i, q2, -⟩
    · exact q.elim
    · exact q
    · exact absurd q2 (Nat.not_lt_zero i)
  · rw [q] at g2
    exact absurd g2 (by decide)
theorem zX_undo {n c m : Nat} {v : XS} (h : zX zE n c m v) (hp : xp v = 2) : zX zE n 0 40 (xUp v 1) := by
  obtain ⟨gV, gN, gm, gP⟩ := h
  rcases gP with q | ⟨q, -⟩ | ⟨-, q2, q3, q4⟩
  · rw [q.1] at hp
    exact absurd hp (by decide)
  · rw [q] at hp
    exact absurd hp (by decide)
  · subst q2 q3
    exact ⟨gV, gN, gm, Or.inr (Or.inl ⟨rfl, fun j hj => (q4 j hj).imp id Or.inl⟩)⟩
theorem xUnr_is (v : XS) : ∀ i, i ≤ 40 → ∃ g : Nat → Int32, xUnr v i = xUR v g ∧ (∀ j, j < i → g j = 0) ∧ ∀ j, i ≤ j → g j = xR v j
  | 0, _ => ⟨xR v, rfl, fun j hj => absurd hj (Nat.not_lt_zero j), fun _ _ => rfl⟩
  | i + 1, hi => by
    obtain ⟨g, e, h1, h2⟩ := xUnr_is v i (by omega)
    refine ⟨upd g i 0, ?_, fun j hj => ?_, fun j hj => ?_⟩
    · show xUR (xUnr v i) (upd (xR (xUnr v i)) (nI i).toNatClampNeg (vp_nar .boolean 0)) = _
      rw [e, nI_clamp (by omega), show vp_nar .boolean 0 = 0 from rfl]
      rfl
    · by_cases q : j = i
      · subst q
        rw [pk_us]
      · rw [pk_un q]
        exact h1 j (by omega)
    · rw [pk_un (by omega)]
      exact h2 j (by omega)
theorem xClr_is (v : XS) : xClr v 3 = xUC2 (xUC1 (xUC0 v (kFill 40 (-1) (xC0 v))) (kFill 40 (-1) (xC1 v))) (kFill 40 (-1) (xC2 v)) := by
  show xUC (xUC (xUC v (nI 0).toNatClampNeg (kFill 40 (-1) (xC v (nI 0).toNatClampNeg))) (nI 1).toNatClampNeg (kFill 40 (-1) (xC (xUC v (nI 0).toNatClampNeg (kFill 40 (-1) (xC v (nI 0).toNatClampNeg))) (nI 1).toNatClampNeg))) (nI 2).toNatClampNeg (kFill 40 (-1) (xC (xUC (xUC v (nI 0).toNatClampNeg (kFill 40 (-1) (xC v (nI 0).toNatClampNeg))) (nI 1).toNatClampNeg (kFill 40 (-1) (xC (xUC v (nI 0).toNatClampNeg (kFill 40 (-1) (xC v (nI 0).toNatClampNeg))) (nI 1).toNatClampNeg))) (nI 2).toNatClampNeg)) = _
  rw [show (nI 0).toNatClampNeg = 0 from rfl, show (nI 1).toNatClampNeg = 1 from rfl, show (nI 2).toNatClampNeg = 2 from rfl]
  rfl
theorem kFill_in {n j : Nat} {y : Int32} {f : Nat → Int32} (h : j < n) : kFill n y f j = y := if_pos h
/-- the end of a change, as a state -/
theorem xEnd_is (v : XS) : ∃ r : Nat → Int32, xEnd v = xUp (xUc (xUR (xUC2 (xUC1 (xUC0 v (kFill 40 (-1) (xC0 v))) (kFill 40 (-1) (xC1 v))) (kFill 40 (-1) (xC2 v))) r) 0) 0 ∧ (∀ j, j < 40 → r j = 0) ∧ ∀ j, 40 ≤ j → r j = xR v j := by
  obtain ⟨r, e2, r1, r2⟩ := xUnr_is (xClr v 3) 40 (Nat.le_refl _)
  refine ⟨r, ?_, r1, fun j hj => ?_⟩
  · unfold xEnd
    rw [e2, xClr_is]
  · rw [r2 j hj, xClr_is]
    rfl
theorem zX_end {n m : Nat} {v : XS} (h : zV v) (hm : m ≤ 40 ∧ xm v = nI m) : zX zE n 0 m (xEnd v) := by
  obtain ⟨h1, h2, h3, h4⟩ := h
  obtain ⟨r, e, r1, r2⟩ := xEnd_is v
  rw [e]
  refine ⟨⟨fun j hj => ⟨(h1 j hj).1, Or.inl ⟨kFill_in hj, kFill_in hj, kFill_in hj⟩⟩, h2, h3, fun j => ?_⟩, ⟨Nat.zero_le _, rfl, fun j hj => absurd hj (Nat.not_lt_zero j)⟩, hm, Or.inl ⟨rfl, rfl, fun j hj => ⟨kFill_in hj, kFill_in hj, kFill_in hj, r1 j hj⟩⟩⟩
  show r j = 0 ∨ r j = 1
  by_cases hj : j < 40
  · exact Or.inl (r1 j hj)
  · rw [r2 j (by omega)]
    exact h4 j
/-- rows that go: what is left -/
theorem xRem_is {v : XS} : ∀ i, i ≤ 40 → ∃ f g : Nat → Int32, xRem v i = xUB (xUA v f) g ∧ (∀ j, j < i → xGo v j = true → f j = -1) ∧ (∀ j, j < i → xGo v j = false → f j = xA v j ∧ g j = xB v j) ∧ ∀ j, i ≤ j → f j = xA v j ∧ g j = xB v j
  | 0, _ => ⟨xA v, xB v, rfl, fun j hj => absurd hj (Nat.not_lt_zero j), fun j hj => absurd hj (Nat.not_lt_zero j), fun _ _ => ⟨rfl, rfl⟩⟩
  | i + 1, hi => by
    obtain ⟨f, g, e, h1, h2, h3⟩ := xRem_is (v := v) i (by omega)
    have hg : xGo (xRem v i) i = xGo v i := by
      unfold xGo xOld
      rw [e, kx (by omega)]
      show (!decide (f i = -1) && !xSh v (nI i)) = _
      rw [(h3 i (Nat.le_refl i)).1]
    have es : xRem v (i + 1) = if xGo v i then xPut (xRem v i) (nI i) (-1) (-1) else xRem v i := by
      show (if xGo (xRem v i) i then xPut (xRem v i) (nI i) (-1) (-1) else xRem v i) = _
      rw [hg]
    cases hq : xGo v i with
    | false =>
      refine ⟨f, g, by rw [es, hq]; exact e, fun j hj hj2 => ?_, fun j hj hj2 => ?_, fun j hj => h3 j (by omega)⟩
      · by_cases q : j = i
        · subst q
          rw [hq] at hj2
          exact absurd hj2 (by decide)
        · exact h1 j (by omega) hj2
      · by_cases q : j = i
        · subst q
          exact h3 j (Nat.le_refl j)
        · exact h2 j (by omega) hj2
    | true =>
      refine ⟨upd f i (-1), upd g i (-1), ?_, fun j hj hj2 => ?_, fun j hj hj2 => ?_, fun j hj => ?_⟩
      · rw [es, hq, if_pos rfl, e]
        show xPut (xUB (xUA v f) g) (nI i) (-1) (-1) = _
        unfold xPut
        rw [kx (by omega)]
        rfl
      · by_cases q : j = i
        · subst q
          exact pk_us
        · rw [pk_un q]
          exact h1 j (by omega) hj2
      · by_cases q : j = i
        · subst q
          rw [hq] at hj2
          exact absurd hj2 (by decide)
        · rw [pk_un q, pk_un q]
          exact h2 j (by omega) hj2
      · rw [pk_un (by omega), pk_un (by omega)]
        exact h3 j (by omega)
theorem xRemN_is {v : XS} : ∀ i, i ≤ 40 → xRemN v i = kSum (fun j => b2i (xGo v j)) i
  | 0, _ => rfl
  | i + 1, hi => by
    obtain ⟨f, g, e, h1, h2, h3⟩ := xRem_is (v := v) i (by omega)
    have hg : xGo (xRem v i) i = xGo v i := by
      unfold xGo xOld
      rw [e, kx (by omega)]
      show (!decide (f i = -1) && !xSh v (nI i)) = _
      rw [(h3 i (Nat.le_refl i)).1]
    show xRemN v i + b2i (xGo (xRem v i) i) = kSum (fun j => b2i (xGo v j)) i + b2i (xGo v i)
    rw [xRemN_is i (by omega), hg]
theorem zX_rem {n c m : Nat} {v : XS} (h : zX zE n c m v) : zX zE n 0 m (xEnd (xRem v 40)) := by
  obtain ⟨f, g, e, h1, h2, -⟩ := xRem_is (v := v) 40 (Nat.le_refl _)
  refine zX_end ?_ ?_
  · rw [e]
    refine ⟨fun j hj => ⟨?_, (h.1.1 j hj).2⟩, h.1.2⟩
    show f j = -1 ∨ ∃ a b : Nat, a ≤ 999 ∧ b ≤ 999 ∧ f j = nI a ∧ g j = nI b
    cases hq : xGo v j with
    | true => exact Or.inl (h1 j hj hq)
    | false =>
      rw [(h2 j hj hq).1, (h2 j hj hq).2]
      exact (h.1.1 j hj).1
  · rw [e]
    exact h.2.2.1
theorem zX_start {n c m : Nat} {v : XS} (h : zX zE n c m v) (hp : xp v = 0) (al : Int32) {q : Nat} (hq : q ≤ 999) : zX zE n 0 0 (xStart v al (nI q)) := by
  obtain ⟨⟨h1, h2, h3, h4⟩, hN, hm, h⟩ := h
  rcases h with ⟨-, q2, -⟩ | ⟨p1, -⟩ | ⟨p1, -⟩
  · subst q2
    exact ⟨⟨h1, ⟨q, hq, rfl⟩, h3, h4⟩, hN, ⟨Nat.zero_le _, rfl⟩, Or.inr (Or.inl ⟨rfl, fun j hj => absurd hj (Nat.not_lt_zero j)⟩)⟩
  · rw [hp] at p1
    exact absurd p1 (by decide)
  · rw [hp] at p1
    exact absurd p1 (by decide)
theorem zI_pace {n : Nat} {v : XS} (h : zI n v) {ch : Nat} (h1 : 1 ≤ ch) (h2 : ch ≤ 40) (lag : Int32) : zI n (xUl (xUk v (nI ch)) lag) := by
  obtain ⟨c, m, ⟨q1, q2, q3, q4⟩, g2, g3, g4⟩ := h
  exact ⟨c, m, ⟨q1, q2, ⟨ch, h1, h2, rfl⟩, q4⟩, g2, g3, g4⟩
theorem zI_new : zI 0 xNew := by
  have e : xNew = xUl (xUk (xUp (xUC2 (xUC1 (xUC0 (xUA xZ (kFill 40 (-1) (xA xZ))) (kFill 40 (-1) (xC0 xZ))) (kFill 40 (-1) (xC1 xZ))) (kFill 40 (-1) (xC2 xZ))) 0) 8) 10 := by
    unfold xNew
    rw [xClr_is]
    rfl
  rw [e]
  exact ⟨0, 0, ⟨fun j hj => ⟨Or.inl (kFill_in hj), Or.inl ⟨kFill_in hj, kFill_in hj, kFill_in hj⟩⟩, ⟨0, by decide, rfl⟩, ⟨8, by decide, by decide, rfl⟩, fun j => Or.inl rfl⟩, ⟨Nat.le_refl _, rfl, fun j hj => absurd hj (Nat.not_lt_zero j)⟩, ⟨Nat.zero_le _, rfl⟩, Or.inl ⟨rfl, rfl, fun j hj => ⟨kFill_in hj, kFill_in hj, kFill_in hj, rfl⟩⟩⟩

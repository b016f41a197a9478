/-! MINE: the law's two arrays, and what the law reads off them. -/
def lK (a0 a1 a2 a3 a4 a5 a6 : Int32) : Nat → Int32
  | 0 => a0
  | 1 => a1
  | 2 => a2
  | 3 => a3
  | 4 => a4
  | 5 => a5
  | 6 => a6
  | _ => 0
def lC (v : XS) : Nat → Int32 := lK (xp v) (xt v) (xq v) (xk v) (xl v) (xm v) (xc v)
def lO (v : XS) : Nat → Int32 := fun j => if xA v j = -1 then -1 else 1000 * xA v j + xB v j
section LK
variable (a0 a1 a2 a3 a4 a5 a6 y : Int32)
theorem lK_u0 : upd (lK a0 a1 a2 a3 a4 a5 a6) 0 y = lK y a1 a2 a3 a4 a5 a6 := funext fun j => by
  by_cases h : j = 0
  · subst h; rw [pk_us]; rfl
  · rw [pk_un h]; rcases j with _ | _ | _ | _ | _ | _ | _ | j <;> first | rfl | exact absurd rfl h
theorem lK_u1 : upd (lK a0 a1 a2 a3 a4 a5 a6) 1 y = lK a0 y a2 a3 a4 a5 a6 := funext fun j => by
  by_cases h : j = 1
  · subst h; rw [pk_us]; rfl
  · rw [pk_un h]; rcases j with _ | _ | _ | _ | _ | _ | _ | j <;> first | rfl | exact absurd rfl h
theorem lK_u2 : upd (lK a0 a1 a2 a3 a4 a5 a6) 2 y = lK a0 a1 y a3 a4 a5 a6 := funext fun j => by
  by_cases h : j = 2
  · subst h; rw [pk_us]; rfl
  · rw [pk_un h]; rcases j with _ | _ | _ | _ | _ | _ | _ | j <;> first | rfl | exact absurd rfl h
theorem lK_u3 : upd (lK a0 a1 a2 a3 a4 a5 a6) 3 y = lK a0 a1 a2 y a4 a5 a6 := funext fun j => by
  by_cases h : j = 3
  · subst h; rw [pk_us]; rfl
  · rw [pk_un h]; rcases j with _ | _ | _ | _ | _ | _ | _ | j <;> first | rfl | exact absurd rfl h
theorem lK_u4 : upd (lK a0 a1 a2 a3 a4 a5 a6) 4 y = lK a0 a1 a2 a3 y a5 a6 := funext fun j => by
  by_cases h : j = 4
  · subst h; rw [pk_us]; rfl
  · rw [pk_un h]; rcases j with _ | _ | _ | _ | _ | _ | _ | j <;> first | rfl | exact absurd rfl h
theorem lK_u5 : upd (lK a0 a1 a2 a3 a4 a5 a6) 5 y = lK a0 a1 a2 a3 a4 y a6 := funext fun j => by
  by_cases h : j = 5
  · subst h; rw [pk_us]; rfl
  · rw [pk_un h]; rcases j with _ | _ | _ | _ | _ | _ | _ | j <;> first | rfl | exact absurd rfl h
theorem lK_u6 : upd (lK a0 a1 a2 a3 a4 a5 a6) 6 y = lK a0 a1 a2 a3 a4 a5 y := funext fun j => by
  by_cases h : j = 6
  · subst h; rw [pk_us]; rfl
  · rw [pk_un h]; rcases j with _ | _ | _ | _ | _ | _ | _ | j <;> first | rfl | exact absurd rfl h
end LK
/-- what the law says that a row is altered to -/
def lDig (b : Int32) : Int32 := if b ≤ 99 then (if b ≤ 9 then 1 else 2) else 3
def lAlt (t q row col : Int32) : Int32 :=
  if row < 0 then -1 else if t = 1 ∧ ¬ row - row / 1000 * 1000 ≤ q then -1
  else if col = 0 then (if t = 0 then row / 1000 / 100 else row / 1000)
  else if col = 1 then (if t = 0 then row / 1000 - row / 1000 / 100 * 100 else if t = 1 then row - row / 1000 * 1000 else (row - row / 1000 * 1000) * q)
  else (if t = 0 then row - row / 1000 * 1000 else if t = 1 then 0 else lDig (row - row / 1000 * 1000))
theorem lDig_is {n : Nat} (h : n < 2 ^ 31) : lDig (nI n) = xDig (nI n) := by
  unfold lDig xDig
  have e1 : (nI n ≤ 99) ↔ n ≤ 99 := nI_leI (a := n) (b := 99) h (by decide)
  have e2 : (nI n ≤ 9) ↔ n ≤ 9 := nI_leI (a := n) (b := 9) h (by decide)
  have e3 : ((10 : Int32) ≤ nI n) ↔ 10 ≤ n := nI_leI (a := 10) (b := n) (by decide) h
  have e4 : ((100 : Int32) ≤ nI n) ↔ 100 ≤ n := nI_leI (a := 100) (b := n) (by decide) h
  by_cases h1 : n ≤ 9
  · rw [if_pos (e1.mpr (by omega)), if_pos (e2.mpr h1), if_neg (fun q => by have := e3.mp q; omega)]
  · by_cases h2 : n ≤ 99
    · rw [if_pos (e1.mpr h2), if_neg (fun q => h1 (e2.mp q)), if_pos (e3.mpr (by omega)), if_neg (fun q => by have := e4.mp q; omega)]
    · rw [if_neg (fun q => h2 (e1.mp q)), if_pos (e3.mpr (by omega)), if_pos (e4.mpr (by omega))]
theorem lrow_a {a b : Nat} (ha : a ≤ 999) (hb : b ≤ 999) : nI (1000 * a + b) / 1000 = nI a := by
  rw [i1000, pk_div (by omega) (by decide) (by decide)]
  congr 1
  omega
theorem lrow_b {a b : Nat} (ha : a ≤ 999) (hb : b ≤ 999) : nI (1000 * a + b) - nI (1000 * a + b) / 1000 * 1000 = nI b := by
  rw [i1000, pk_rem (by omega) (by decide) (by decide)]
  congr 1
  omega
theorem lAlt_w {v : XS} {a b : Nat} (ha : a ≤ 999) (hb : b ≤ 999) (c : Int32) : lAlt (xt v) (xq v) (nI (1000 * a + b)) c = if xFits v (nI b) then xAlt v (nI a) (nI b) c else -1 := by
  unfold lAlt
  rw [if_neg (nI_pos (by omega)), lrow_b ha hb, lrow_a ha hb, lDig_is (by omega)]
  by_cases h1 : xt v = 1 ∧ ¬ nI b ≤ xq v
  · rw [if_pos h1, if_neg (by unfold xFits; rw [decide_eq_true h1.1, decide_eq_true (Int32.not_le.mp h1.2)]; decide)]
  · have hf : xFits v (nI b) = true := by
      unfold xFits
      by_cases h2 : xt v = 1
      · have h3 : ¬ xq v < nI b := fun q => h1 ⟨h2, Int32.not_le.mpr q⟩
        rw [decide_eq_false h3]
        simp
      · rw [decide_eq_false h2]
        rfl
    rw [if_neg h1, if_pos hf]
    rfl
theorem lAlt_m (t q c : Int32) : lAlt t q (-1) c = -1 := if_pos (by decide)
theorem lO_neg {v : XS} {j : Nat} (h : xA v j = -1) : lO v j = -1 := if_pos h
theorem lO_pos {v : XS} {j a b : Nat} (ha : a ≤ 999) (h1 : xA v j = nI a) (h2 : xB v j = nI b) : lO v j = nI (1000 * a + b) := by
  unfold lO
  rw [h1, h2, if_neg (nI_m1 (by omega)), row_n]
theorem lAlt_bro {v : XS} {j : Nat} (hj : j < 40) (h : zA v j) (c : Int32) : lAlt (xt v) (xq v) (lO v j) c = xBro v (nI j) c := by
  unfold xBro
  rw [kx hj]
  rcases h with e | ⟨a, b, ha, hb, ea, eb⟩
  · rw [lO_neg e, lAlt_m, if_neg]
    unfold xOld
    rw [kx hj, e]
    simp
  · rw [lO_pos ha ea eb, lAlt_w ha hb, ea, eb]
    have ho : xOld v (nI j) = true := by
      unfold xOld
      rw [kx hj, ea, decide_eq_false (nI_m1 (by omega))]
      rfl
    rw [ho, Bool.true_and]
theorem lO_lt {v : XS} {j : Nat} (hj : j < 40) (h : zA v j) (q : lO v j < 0) : xOld v (nI j) = false := by
  unfold xOld
  rw [kx hj]
  rcases h with e | ⟨a, b, ha, hb, ea, eb⟩
  · rw [e]; rfl
  · rw [lO_pos ha ea eb] at q
    exact absurd q (nI_pos (by omega))
theorem lO_ge {v : XS} {j : Nat} (hj : j < 40) (h : zA v j) (q : ¬ lO v j < 0) : xOld v (nI j) = true := by
  unfold xOld
  rw [kx hj]
  by_cases e : xA v j = -1
  · rw [lO_neg e] at q
    exact absurd (by decide) q
  · rw [decide_eq_false e]; rfl
theorem lO_row {v : XS} {j : Nat} (hj : j < 40) (h : xOld v (nI j) = true) : lO v j = xRow v (nI j) := by
  unfold xOld at h
  unfold lO xRow
  rw [kx hj] at h ⊢
  rw [if_neg (fun e => by rw [e] at h; exact absurd h (by decide))]
/-- the shadow's row, as one looks at it -/
theorem l_sh {v : XS} {j : Nat} (hj : j < 40) (h : zS v j) : (xSh v (nI j) = false ∧ ∀ k, k < 3 → xC v k j = -1) ∨ (xSh v (nI j) = true ∧ xR v j = 0 ∧ ∀ k, k < 3 → ∃ x : Nat, x < 2 ^ 31 ∧ xC v k j = nI x) := by
  unfold xSh
  rw [kx hj]
  rcases h with ⟨e0, e1, e2⟩ | ⟨x, y, z, hx, hy, hz, e0, e1, e2, e3⟩
  · refine Or.inl ⟨by show (!decide (xC0 v j = -1)) = false; rw [e0]; rfl, fun k hk => ?_⟩
    rcases (show k = 0 ∨ k = 1 ∨ k = 2 by omega) with rfl | rfl | rfl
    · exact e0
    · exact e1
    · exact e2
  · refine Or.inr ⟨by show (!decide (xC0 v j = -1)) = true; rw [e0, decide_eq_false (nI_m1 hx)]; rfl, e3, fun k hk => ?_⟩
    rcases (show k = 0 ∨ k = 1 ∨ k = 2 by omega) with rfl | rfl | rfl
    · exact ⟨x, hx, e0⟩
    · exact ⟨y, hy, e1⟩
    · exact ⟨z, hz, e2⟩
theorem l_sh_lt {v : XS} {j k : Nat} (hj : j < 40) (h : zS v j) (hk : k < 3) (q : xC v k j < 0) : xSh v (nI j) = false := by
  rcases l_sh hj h with h | h
  · exact h.1
  · obtain ⟨x, hx, e⟩ := h.2.2 k hk
    rw [e] at q
    exact absurd q (nI_pos hx)
theorem l_sh_ge {v : XS} {j k : Nat} (hj : j < 40) (h : zS v j) (hk : k < 3) (q : ¬ xC v k j < 0) : xSh v (nI j) = true := by
  rcases l_sh hj h with h | h
  · rw [h.2 k hk] at q
    exact absurd (by decide) q
  · exact h.1
theorem l_ref {v : XS} {j : Nat} (hj : j < 40) (h : zS v j) (q : xSh v (nI j) = true) : xR v j = 0 := by
  rcases l_sh hj h with h | h
  · rw [h.1] at q
    exact absurd q (by decide)
  · exact h.2.1
theorem l_bro_ge {v : XS} (hq : zQ v) {j : Nat} (hj : j < 40) (h : zA v j) (c : Int32) : (xBro v (nI j) c = -1) ∨ ∃ n : Nat, n < 2 ^ 31 ∧ xBro v (nI j) c = nI n := by
  cases hd : lDue v (nI j) with
  | false => exact Or.inl (l_bro_f hd c)
  | true => exact Or.inr (l_bro_t hq hj h hd c)
/-- a brought key: in the shadow just if it is due -/
theorem zB_sh {v : XS} (hq : zQ v) {j : Nat} (hj : j < 40) (hA : zA v j) (h : zB v j) : xSh v (nI j) = lDue v (nI j) := by
  unfold xSh
  rw [kx hj]
  show (!decide (xC0 v j = -1)) = _
  rw [h.1]
  cases hd : lDue v (nI j) with
  | false => rw [l_bro_f hd]; rfl
  | true =>
    obtain ⟨n, hn, e⟩ := l_bro_t hq hj hA hd 0
    rw [e, decide_eq_false (nI_m1 hn)]
    rfl
theorem zB_beh {v : XS} {j : Nat} (hj : j < 40) (h : zB v j) : xBeh v (nI j) = false := by
  obtain ⟨h0, h1, h2, -⟩ := h
  unfold xBeh
  rw [kx hj]
  show (!decide (xC0 v j = _) || (!decide (xC1 v j = _) || !decide (xC2 v j = _))) = false
  rw [h0, h1, h2]
  simp
theorem zB_ref {v : XS} {j : Nat} (hj : j < 40) (h : zB v j) : xR v j = b2i (xOld v (nI j) && !lDue v (nI j)) := by
  rw [h.2.2.2]
  unfold lDue
  rw [kx hj]
  cases xOld v (nI j) <;> rfl
theorem kSum_congr {f g : Nat → Int32} : ∀ {n : Nat}, (∀ i, i < n → f i = g i) → kSum f n = kSum g n
  | 0, _ => rfl
  | n + 1, h => by
    show kSum f n + f n = kSum g n + g n
    rw [kSum_congr (fun i hi => h i (by omega)), h n (Nat.lt_succ_self n)]
theorem kSum_zero {f : Nat → Int32} {n : Nat} (h : ∀ i, i < n → f i = 0) : kSum f n = 0 := by
  induction n with
  | zero => rfl
  | succ n ih =>
    show kSum f n + f n = 0
    rw [ih (fun i hi => h i (by omega)), h n (Nat.lt_succ_self n)]
    rfl
theorem kSum_upd {f g : Nat → Int32} {i : Nat} : ∀ {n : Nat}, i < n → (∀ j, j < n → j ≠ i → f j = g j) → kSum f n + g i = kSum g n + f i
  | 0, hi, _ => absurd hi (Nat.not_lt_zero i)
  | n + 1, hi, h => by
    show kSum f n + f n + g i = kSum g n + g n + f i
    by_cases e : i = n
    · subst e
      rw [kSum_congr (fun j hj => h j (by omega) (by omega)), Int32.add_assoc, Int32.add_assoc, Int32.add_comm (f i)]
    · rw [h n (Nat.lt_succ_self n) (fun q => e q.symm), Int32.add_assoc, Int32.add_comm (g n), ← Int32.add_assoc, kSum_upd (n := n) (by omega) (fun j hj hn => h j (by omega) hn), Int32.add_assoc, Int32.add_assoc, Int32.add_comm (f i)]
theorem beh_zero {v : XS} (h : ∀ j, j < 40 → zB v j) : xBehinds v 40 = 0 := kSum_zero fun j hj => by
  rw [zB_beh hj (h j hj)]
  rfl
/-- the sums that the law makes on its way -/
def zBe (v : XS) : Nat → Int32 := kSum (fun i => b2i (!decide (xp v = 0) && xBeh v (nI i)))
def zDu (v : XS) (c : Int32) (i : Nat) : Int32 := if xp v = 0 then 0 else if xBro v (nI i) c = -1 then 0 else xBro v (nI i) c
def zAt (v : XS) (c : Int32) : Nat → Int32 := kSum (zDu v c)
theorem zBe_40 (v : XS) : (if xp v = 0 then 0 else xBehinds v 40) = zBe v 40 := by
  by_cases h : xp v = 0
  · rw [if_pos h]
    exact (kSum_zero fun j hj => by rw [decide_eq_true h]; rfl).symm
  · rw [if_neg h]
    exact kSum_congr fun j hj => by rw [decide_eq_false h]; rfl
theorem zAt_40 (v : XS) (c : Int32) : (if xp v = 0 then 0 else xSumAt v c 40) = zAt v c 40 := by
  by_cases h : xp v = 0
  · rw [if_pos h]
    exact (kSum_zero fun j hj => by unfold zDu; rw [if_pos h]).symm
  · rw [if_neg h]
    exact kSum_congr fun j hj => by unfold zDu; rw [if_neg h]
def hS (v : XS) (i k : Nat) : Nat → Int32 := fun j => if j < 3 then xSum v (nI j) (if j < k then i + 1 else i) else if j < 6 then zAt v (nI (j - 3)) (if j - 3 < k then i + 1 else i) else 0
theorem hS_0 (v : XS) : hS v 0 0 = fun _ => 0 := funext fun j => by
  unfold hS
  by_cases h : j < 3
  · rw [if_pos h, if_neg (Nat.not_lt_zero j)]
    rfl
  · rw [if_neg h]
    by_cases h2 : j < 6
    · rw [if_pos h2, if_neg (Nat.not_lt_zero _)]
      rfl
    · rw [if_neg h2]
theorem hS_next (v : XS) (i : Nat) : hS v (i + 1) 0 = hS v i 3 := funext fun j => by
  unfold hS
  by_cases h : j < 3
  · rw [if_pos h, if_pos h, if_pos h, if_neg (Nat.not_lt_zero j)]
  · rw [if_neg h, if_neg h]
    by_cases h2 : j < 6
    · rw [if_pos h2, if_pos h2, if_neg (Nat.not_lt_zero _), if_pos (by omega)]
    · rw [if_neg h2, if_neg h2]
def zSu (v : XS) (k i : Nat) : Int32 := if xSh v (nI i) then xC v k i else 0
theorem k3n {k : Nat} (hk : k < 3) : (nI k).toNatClampNeg = k ∧ (3 + nI k).toNatClampNeg = k + 3 := by
  refine ⟨nI_clamp (by omega), ?_⟩
  rw [show (3 : Int32) = nI 3 from rfl, nI_add, nI_clamp (by omega), Nat.add_comm]
theorem hS_step (v : XS) {i k : Nat} (hi : i < 40) (hk : k < 3) : hS v i (k + 1) = upd (upd (hS v i k) k (hS v i k k + zSu v k i)) (k + 3) (upd (hS v i k) k (hS v i k k + zSu v k i) (k + 3) + zDu v (nI k) i) := funext fun j => by
  have hne : k + 3 ≠ k := by omega
  rw [pk_un hne]
  by_cases e1 : j = k + 3
  · subst e1
    rw [pk_us]
    unfold hS
    rw [if_neg (by omega), if_pos (by omega), if_pos (by omega), if_neg (by omega), if_pos (by omega), if_neg (by omega), Nat.add_sub_cancel]
    rfl
  · rw [pk_un e1]
    by_cases e2 : j = k
    · subst e2
      rw [pk_us]
      unfold hS
      rw [if_pos hk, if_pos (Nat.lt_succ_self j), if_pos hk, if_neg (Nat.lt_irrefl j)]
      have e3 : (if xSh v (nI i) then xC v (nI j).toNatClampNeg (nI i).toNatClampNeg else 0) = zSu v j i := by
        rw [kx hi, nI_clamp (by omega)]
        rfl
      exact congrArg (kSum (fun i => if xSh v (nI i) then xC v (nI j).toNatClampNeg (nI i).toNatClampNeg else 0) i + ·) e3
    · rw [pk_un e2]
      unfold hS
      by_cases h : j < 3
      · rw [if_pos h, if_pos h]
        by_cases h2 : j < k
        · rw [if_pos (by omega), if_pos h2]
        · rw [if_neg (by omega), if_neg h2]
      · rw [if_neg h, if_neg h]
        by_cases h3 : j < 6
        · rw [if_pos h3, if_pos h3]
          by_cases h2 : j - 3 < k
          · rw [if_pos (by omega), if_pos h2]
          · rw [if_neg (by omega), if_neg h2]
        · rw [if_neg h3, if_neg h3]
theorem hS_sum (v : XS) {k : Nat} (hk : k < 3) : hS v 40 0 k = xSum v (nI k) 40 ∧ hS v 40 0 (k + 3) = zAt v (nI k) 40 := by
  unfold hS
  rw [if_pos hk, if_neg (Nat.not_lt_zero k), if_neg (by omega), if_pos (by omega), if_neg (Nat.not_lt_zero _), Nat.add_sub_cancel]
  exact ⟨rfl, rfl⟩

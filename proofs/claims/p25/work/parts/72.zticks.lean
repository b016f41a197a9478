/-! MINE: what a tick does to what the law looks at. -/
theorem copyL_o (v : XS) (m : Nat) : ∀ i : Nat, xA (xCopyL v m i) = xA v ∧ xB (xCopyL v m i) = xB v ∧ xp (xCopyL v m i) = xp v ∧ xt (xCopyL v m i) = xt v ∧ xq (xCopyL v m i) = xq v ∧ xk (xCopyL v m i) = xk v ∧ xl (xCopyL v m i) = xl v ∧ xc (xCopyL v m i) = xc v
  | 0 => ⟨rfl, rfl, rfl, rfl, rfl, rfl, rfl, rfl⟩
  | i + 1 => copyL_o v m i
theorem playL_o (v : XS) : ∀ i : Nat, xA (xPlayL v i) = xA v ∧ xB (xPlayL v i) = xB v ∧ xp (xPlayL v i) = xp v ∧ xt (xPlayL v i) = xt v ∧ xq (xPlayL v i) = xq v ∧ xk (xPlayL v i) = xk v ∧ xl (xPlayL v i) = xl v ∧ xm (xPlayL v i) = xm v
  | 0 => ⟨rfl, rfl, rfl, rfl, rfl, rfl, rfl, rfl⟩
  | i + 1 => playL_o v i
theorem copy_o (v : XS) (m i : Nat) : xA (xCopy v m i) = xA v ∧ xB (xCopy v m i) = xB v ∧ xp (xCopy v m i) = xp v ∧ xt (xCopy v m i) = xt v ∧ xq (xCopy v m i) = xq v ∧ xk (xCopy v m i) = xk v ∧ xl (xCopy v m i) = xl v ∧ xc (xCopy v m i) = xc v := copyL_o v m i
theorem play_o (v : XS) (i : Nat) : xA (xPlay v i) = xA v ∧ xB (xPlay v i) = xB v ∧ xp (xPlay v i) = xp v ∧ xt (xPlay v i) = xt v ∧ xq (xPlay v i) = xq v ∧ xk (xPlay v i) = xk v ∧ xl (xPlay v i) = xl v ∧ xm (xPlay v i) = xm v := playL_o v i
theorem play_c {v : XS} {c i : Nat} (h : xc v = nI c) (hi : i ≤ c) : xc (xPlay v i) = nI (c - i) := by
  show xc (xPlayL v i) - nI i = _
  rw [xPlayL_c, h, pk_sub hi]
theorem copyE_is {v : XS} {m ch : Nat} (hm : m ≤ 40) (hc : ch ≤ 40) (h1 : xm v = nI m) (h2 : xk v = nI ch) : xCopyE v = nI (m + min ch (40 - m)) := by
  unfold xCopyE
  rw [h1, h2, nI_add, show (40 : Int32) = nI 40 from rfl]
  by_cases h : 40 < m + ch
  · rw [if_pos ((nI_ltI (by omega) (by omega)).mpr h)]
    congr 1
    omega
  · rw [if_neg (fun q => h ((nI_ltI (by omega) (by omega)).mp q))]
    congr 1
    omega
theorem min_is {v : XS} {c ch : Nat} (hc : c ≤ 1024) (hh : ch ≤ 40) (h1 : xc v = nI c) (h2 : xk v = nI ch) : kMin (xk v) (xc v) = nI (min ch c) := by
  unfold kMin
  rw [h1, h2]
  by_cases h : c < ch
  · rw [if_pos ((nI_ltI (by omega) (by omega)).mpr h)]
    congr 1
    omega
  · rw [if_neg (fun q => h ((nI_ltI (by omega) (by omega)).mp q))]
    congr 1
    omega
theorem many_t {v : XS} {ch d n : Nat} (hk : xk v = nI ch) (hn : n = min ch d) (hc : ch ≤ 40) (hd : d ≤ 1024) (h : xk v ≤ nI d) : xk v = nI n := by
  rw [hk] at h ⊢
  have := (nI_leI (by omega) (by omega)).mp h
  congr 1
  omega
theorem many_f {v : XS} {ch d n : Nat} (hk : xk v = nI ch) (hn : n = min ch d) (hc : ch ≤ 40) (hd : d ≤ 1024) (h : ¬ xk v ≤ nI d) : nI d = nI n := by
  rw [hk] at h
  have : ¬ ch ≤ d := fun q => h ((nI_leI (by omega) (by omega)).mpr q)
  congr 1
  omega
theorem within_k {g : Nat} (hg : g < 40) : xWithin (nI g) 0 1000 = true := by
  unfold xWithin
  rw [decide_eq_false (nI_pos (by omega)), decide_eq_false (fun q => by have := (nI_ltI (a := 1000) (b := g) (by decide) (by omega)).mp q; omega)]
  rfl
theorem ftick_2 {v : XS} {g : Nat} (hg : g < 40) (hp : ¬ xp v = 1) : xfTick v (nI g) = 2 := by
  unfold xfTick
  rw [within_k hg, if_neg hp]
  rfl
theorem ftick_0 {v : XS} {g : Nat} (hg : g < 40) (hp : xp v = 1) : xfTick v (nI g) = 0 := by
  unfold xfTick
  rw [within_k hg, if_pos hp]
  rfl
section TK
variable (l : Launch) (D : va_G) (ca : Nat → ClassId) (ad : Nat → Nat) {v : XS} {n c m g ch : Nat}
theorem tick_any (h : zX zE n c m v) (hn : n ≤ 1000) (hk : xk v = nI ch) (hc : ch ≤ 40) (hlS : l.stackTraces = false) :
    CA l D ca ad v 4 (nI g) 0 0 (zCd (-9) (-8) 0 0 (xfTick v (nI g)) (if nI g ≤ xl v then (if 40 ≤ xm v then kMin (xk v) (xc v) else xCopyE v - xm v) else 0)) (kSt (xfTick v (nI g)) v (if nI g ≤ xl v then (if 40 ≤ xm v then xPlay v (min ch c) else xCopy v m (min ch (40 - m))) else v)) :=
  kL_asks4 l D ca ad v (nI g) 0 0 m (min ch (40 - m)) (min ch c) c h.2.2.1.2 (fun _ => copyE_is h.2.2.1.1 hc h.2.2.1.2 hk) (fun _ => by have := h.2.2.1.1; omega) (min_is (by have := h.2.1.1; omega) hc h.2.1.2.1 hk) h.2.1.2.1 (Nat.min_le_right _ _) (by have := h.2.1.1; omega) (fun j hj => by
    have := h.2.1.1
    rw [nI_clamp (by omega)]
    exact h.2.1.2.2 j (by omega)) hlS
theorem tick_a (h : zX zE n c m v) (hn : n ≤ 1000) (hk : xk v = nI ch) (hc : ch ≤ 40) (hg : g < 40) (hp : ¬ xp v = 1) (hlS : l.stackTraces = false) : CA l D ca ad v 4 (nI g) 0 0 (-8) v :=
  CA.f2 (tick_any l D ca ad h hn hk hc hlS) (ftick_2 hg hp)
theorem tick_b (h : zX zE n c m v) (hn : n ≤ 1000) (hk : xk v = nI ch) (hc : ch ≤ 40) (hg : g < 40) (hp : xp v = 1) (hl : ¬ nI g ≤ xl v) (hlS : l.stackTraces = false) : CA l D ca ad v 4 (nI g) 0 0 0 v := by
  have h9 := CA.ok (tick_any l D ca ad h hn hk hc hlS) (ftick_0 hg hp)
  rw [if_neg hl, if_neg hl] at h9
  exact h9
theorem tick_c (h : zX zE n c m v) (hn : n ≤ 1000) (hk : xk v = nI ch) (hc : ch ≤ 40) (hg : g < 40) (hp : xp v = 1) (hl : nI g ≤ xl v) (hm : m < 40) (hlS : l.stackTraces = false) : CA l D ca ad v 4 (nI g) 0 0 (nI (min ch (40 - m))) (xCopy v m (min ch (40 - m))) := by
  have h9 := CA.ok (tick_any l D ca ad h hn hk hc hlS) (ftick_0 hg hp)
  have h40 : ¬ (40 : Int32) ≤ xm v := by rw [h.2.2.1.2]; exact nI_ge (a := m) (b := 40) hm (by decide)
  rw [if_pos hl, if_pos hl, if_neg h40, if_neg h40, copyE_is h.2.2.1.1 hc h.2.2.1.2 hk, h.2.2.1.2, pk_sub (by omega), Nat.add_sub_cancel_left] at h9
  exact h9
theorem tick_d (h : zX zE n c 40 v) (hn : n ≤ 1000) (hk : xk v = nI ch) (hc : ch ≤ 40) (hg : g < 40) (hp : xp v = 1) (hl : nI g ≤ xl v) (hlS : l.stackTraces = false) : CA l D ca ad v 4 (nI g) 0 0 (nI (min ch c)) (xPlay v (min ch c)) := by
  have h9 := CA.ok (tick_any l D ca ad h hn hk hc hlS) (ftick_0 hg hp)
  have h40 : (40 : Int32) ≤ xm v := by rw [h.2.2.1.2]; decide
  rw [if_pos hl, if_pos hl, if_pos h40, if_pos h40, min_is (by have := h.2.1.1; omega) hc h.2.1.2.1 hk] at h9
  exact h9
end TK
theorem ref2_a {v : XS} {k : Int32} (h : xOld v k = false) : (0 : Int32) = b2i (xOld v k && !lDue v k) := by
  rw [h]
  rfl
theorem ref2_b {v : XS} {k : Int32} (h : 0 ≤ xBro v k 0) : (0 : Int32) = b2i (xOld v k && !lDue v k) := by
  cases hd : lDue v k with
  | true => cases xOld v k <;> rfl
  | false =>
    rw [l_bro_f hd] at h
    exact absurd h (by decide)
theorem ref2_c {v : XS} {j : Nat} (hq : zQ v) (hj : j < 40) (hA : zA v j) (h : xOld v (nI j) = true) (h2 : ¬ 0 ≤ xBro v (nI j) 0) : (1 : Int32) = b2i (xOld v (nI j) && !lDue v (nI j)) := by
  rw [h]
  cases hd : lDue v (nI j) with
  | false => rfl
  | true =>
    obtain ⟨x, hx, e⟩ := l_bro_t hq hj hA hd 0
    rw [e] at h2
    exact absurd (nI_pos' hx) h2
theorem beh_none {n c m : Nat} {v : XS} (h : zX zE n c m v) (hp : xp v = 1) (hm : m = 40) (hc : c = 0) : (if xp v = 0 then 0 else xBehinds v 40) = 0 := by
  subst hm hc
  rw [if_neg (by rw [hp]; decide)]
  refine beh_zero fun j hj => ?_
  rcases h.2.2.2 with ⟨q, -⟩ | ⟨-, q⟩ | ⟨q, -⟩
  · rw [q] at hp
    exact absurd hp (by decide)
  · rcases q j hj with q | q | ⟨i, q, -⟩
    · exact q.elim
    · exact q
    · exact absurd q (Nat.not_lt_zero i)
  · rw [q] at hp
    exact absurd hp (by decide)
theorem eq40 {m : Nat} (hm : m ≤ 40) (h : ¬ nI m < 40) : m = 40 := by
  have : ¬ m < 40 := fun q => h ((nI_ltI (a := m) (b := 40) (by omega) (by decide)).mpr q)
  omega
theorem eq00 {c : Nat} (hc : c ≤ 1024) (h : ¬ 0 < nI c) : c = 0 := by
  have : ¬ 0 < c := fun q => h ((nI_ltI (a := 0) (b := c) (by decide) (by omega)).mpr q)
  omega
theorem lC_copy {v : XS} {m i : Nat} (he : xCopyE v = nI (m + i)) : lK (xp v) (xt v) (xq v) (xk v) (xl v) (nI (m + i)) (xc v) = lC (xCopy v m i) := by
  obtain ⟨-, -, e2, e3, e4, e5, e6, e7⟩ := copy_o v m i
  have e8 : xm (xCopy v m i) = nI (m + i) := he
  unfold lC
  rw [e2, e3, e4, e5, e6, e7, e8]
theorem lC_play {v : XS} {c i : Nat} (h : xc v = nI c) (hi : i ≤ c) : lK (xp v) (xt v) (xq v) (xk v) (xl v) (xm v) (nI (c - i)) = lC (xPlay v i) := by
  obtain ⟨-, -, e2, e3, e4, e5, e6, e7⟩ := play_o v i
  unfold lC
  rw [e2, e3, e4, e5, e6, e7, play_c h hi]

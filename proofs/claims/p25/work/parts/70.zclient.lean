/-! MINE: what a write of clients does to what the law looks at. -/
theorem CA.ok {l : Launch} {D : va_G} {ca : Nat → ClassId} {ad : Nat → Nat} {v v' : XS} {w k a b c1 c2 c3 c4 r : Int32} {F : Nat} (h : CA l D ca ad v w k a b (zCd c1 c2 c3 c4 F r) (kSt F v v')) (hF : F = 0) : CA l D ca ad v w k a b r v' := by
  rw [zCd_0 _ _ _ _ hF, kSt_0 hF] at h
  exact h
theorem CA.f1 {l : Launch} {D : va_G} {ca : Nat → ClassId} {ad : Nat → Nat} {v v' : XS} {w k a b c1 c2 c3 c4 r : Int32} {F : Nat} (h : CA l D ca ad v w k a b (zCd c1 c2 c3 c4 F r) (kSt F v v')) (hF : F = 1) : CA l D ca ad v w k a b c1 v := by
  rw [zCd_1 _ _ _ _ hF, kSt_n (by rw [hF]; decide)] at h
  exact h
theorem CA.f2 {l : Launch} {D : va_G} {ca : Nat → ClassId} {ad : Nat → Nat} {v v' : XS} {w k a b c1 c2 c3 c4 r : Int32} {F : Nat} (h : CA l D ca ad v w k a b (zCd c1 c2 c3 c4 F r) (kSt F v v')) (hF : F = 2) : CA l D ca ad v w k a b c2 v := by
  rw [zCd_2 _ _ _ _ hF, kSt_n (by rw [hF]; decide)] at h
  exact h
theorem CA.f3 {l : Launch} {D : va_G} {ca : Nat → ClassId} {ad : Nat → Nat} {v v' : XS} {w k a b c1 c2 c3 c4 r : Int32} {F : Nat} (h : CA l D ca ad v w k a b (zCd c1 c2 c3 c4 F r) (kSt F v v')) (hF : F = 3) : CA l D ca ad v w k a b c3 v := by
  rw [zCd_3 _ _ _ _ hF, kSt_n (by rw [hF]; decide)] at h
  exact h
theorem CA.f4 {l : Launch} {D : va_G} {ca : Nat → ClassId} {ad : Nat → Nat} {v v' : XS} {w k a b c1 c2 c3 c4 r : Int32} {F : Nat} (h : CA l D ca ad v w k a b (zCd c1 c2 c3 c4 F r) (kSt F v v')) (hF : F = 4) : CA l D ca ad v w k a b c4 v := by
  rw [zCd_4 _ _ _ _ hF, kSt_n (by rw [hF]; decide)] at h
  exact h
theorem bcase (b : Bool) : b = true ∨ b = false := by
  cases b
  · exact Or.inr rfl
  · exact Or.inl rfl
theorem within_n {x : Nat} (hx : x ≤ 999) : xWithin (nI x) 0 999 = true := by
  unfold xWithin
  rw [decide_eq_false (nI_pos (by omega)), decide_eq_false (fun q => by have := (nI_ltI (a := 999) (b := x) (by decide) (by omega)).mp q; omega)]
  rfl
theorem cbw_is {v : XS} {x y : Nat} (hx : x ≤ 999) (hy : y ≤ 999) : xCbw v (nI x) (nI y) = (!decide (xp v = 2) || xFits v (nI y)) := by
  unfold xCbw
  rw [within_n hx, within_n hy]
  rfl
theorem cbw_t {v : XS} {x y : Nat} (hx : x ≤ 999) (hy : y ≤ 999) (h : ¬ xp v = 2) : (1 : Int32) = b2i (xCbw v (nI x) (nI y)) := by
  rw [cbw_is hx hy, decide_eq_false h]
  rfl
theorem cbw_n {v : XS} {x y : Nat} (hx : x ≤ 999) (hy : y ≤ 999) (hq : zQ v) (h : xp v = 2) (q : lAlt (xt v) (xq v) (nI (1000 * x + y)) 0 < 0) : (0 : Int32) = b2i (xCbw v (nI x) (nI y)) := by
  rw [cbw_is hx hy, decide_eq_true h]
  cases hf : xFits v (nI y) with
  | false => rfl
  | true =>
    rw [lAlt_w hx hy, if_pos hf] at q
    obtain ⟨n, hn, e⟩ := l_altn hq hx hy 0
    rw [e] at q
    exact absurd q (nI_pos hn)
theorem cbw_p {v : XS} {x y : Nat} (hx : x ≤ 999) (hy : y ≤ 999) (q : ¬ lAlt (xt v) (xq v) (nI (1000 * x + y)) 0 < 0) : (1 : Int32) = b2i (xCbw v (nI x) (nI y)) := by
  rw [cbw_is hx hy]
  cases hf : xFits v (nI y) with
  | false =>
    rw [lAlt_w hx hy, if_neg (by rw [hf]; decide)] at q
    exact absurd (by decide) q
  | true => cases decide (xp v = 2) <;> rfl
theorem in_n {i : Nat} (hi : i < 40) : xWithin (nI i) 0 39 = true := in_key (vp_in_nI hi (by decide))
theorem fins_2 {v : XS} {i : Nat} (hi : i < 40) {a b : Int32} (h : xCbw v a b = false) : xfInsert v (nI i) a b = 2 := by
  unfold xfInsert
  rw [in_n hi, h]
  rfl
theorem fins_3 {v : XS} {i : Nat} (hi : i < 40) {a b : Int32} (h : xCbw v a b = true) (h2 : xSeen v (nI i) = true) : xfInsert v (nI i) a b = 3 := by
  unfold xfInsert
  rw [in_n hi, h, h2]
  rfl
theorem fins_0 {v : XS} {i : Nat} (hi : i < 40) {a b : Int32} (h : xCbw v a b = true) (h2 : xSeen v (nI i) = false) : xfInsert v (nI i) a b = 0 := by
  unfold xfInsert
  rw [in_n hi, h, h2]
  rfl
theorem fins_n {v : XS} {i : Nat} (hi : i < 40) {a b : Int32} : xfInsert v (nI i) a b ≠ 1 := by
  unfold xfInsert
  rw [in_n hi]
  cases xCbw v a b <;> cases xSeen v (nI i) <;> decide
theorem fupd_2 {v : XS} {i : Nat} (hi : i < 40) {a b : Int32} (h : xCbw v a b = false) : xfUpdate v (nI i) a b = 2 := by
  unfold xfUpdate
  rw [in_n hi, h]
  rfl
theorem fupd_3 {v : XS} {i : Nat} (hi : i < 40) {a b : Int32} (h : xCbw v a b = true) (h2 : xSeen v (nI i) = false) : xfUpdate v (nI i) a b = 3 := by
  unfold xfUpdate
  rw [in_n hi, h, h2]
  rfl
theorem fupd_0 {v : XS} {i : Nat} (hi : i < 40) {a b : Int32} (h : xCbw v a b = true) (h2 : xSeen v (nI i) = true) : xfUpdate v (nI i) a b = 0 := by
  unfold xfUpdate
  rw [in_n hi, h, h2]
  rfl
theorem fupd_n {v : XS} {i : Nat} (hi : i < 40) {a b : Int32} : xfUpdate v (nI i) a b ≠ 1 := by
  unfold xfUpdate
  rw [in_n hi]
  cases xCbw v a b <;> cases xSeen v (nI i) <;> decide
theorem fdel_2 {v : XS} {i : Nat} (hi : i < 40) (h2 : xSeen v (nI i) = false) : xfDelete v (nI i) = 2 := by
  unfold xfDelete
  rw [in_n hi, h2]
  rfl
theorem fdel_0 {v : XS} {i : Nat} (hi : i < 40) (h2 : xSeen v (nI i) = true) : xfDelete v (nI i) = 0 := by
  unfold xfDelete
  rw [in_n hi, h2]
  rfl
theorem fdel_n {v : XS} {i : Nat} (hi : i < 40) : xfDelete v (nI i) ≠ 1 := by
  unfold xfDelete
  rw [in_n hi]
  cases xSeen v (nI i) <;> decide
theorem frek_is {v : XS} {i j : Nat} (hi : i < 40) (hj : j < 40) : xfRekey v (nI i) (nI j) = if nI i = nI j then 2 else if !xSeen v (nI i) then 3 else if xSeen v (nI j) then 4 else 0 := by
  unfold xfRekey
  rw [in_n hi, in_n hj]
  rfl
theorem frek_n {v : XS} {i j : Nat} (hi : i < 40) (hj : j < 40) : xfRekey v (nI i) (nI j) ≠ 1 := by
  rw [frek_is hi hj]
  by_cases e : nI i = nI j
  · rw [if_pos e]; decide
  · rw [if_neg e]
    cases xSeen v (nI i) <;> cases xSeen v (nI j) <;> decide
theorem frek_2 {v : XS} {i j : Nat} (hi : i < 40) (hj : j < 40) (e : nI i = nI j) : xfRekey v (nI i) (nI j) = 2 := by
  rw [frek_is hi hj, if_pos e]
theorem frek_3 {v : XS} {i j : Nat} (hi : i < 40) (hj : j < 40) (e : ¬ nI i = nI j) (h : xSeen v (nI i) = false) : xfRekey v (nI i) (nI j) = 3 := by
  rw [frek_is hi hj, if_neg e, h]
  rfl
theorem frek_4 {v : XS} {i j : Nat} (hi : i < 40) (hj : j < 40) (e : ¬ nI i = nI j) (h : xSeen v (nI i) = true) (h2 : xSeen v (nI j) = true) : xfRekey v (nI i) (nI j) = 4 := by
  rw [frek_is hi hj, if_neg e, h, h2]
  rfl
theorem frek_0 {v : XS} {i j : Nat} (hi : i < 40) (hj : j < 40) (e : ¬ nI i = nI j) (h : xSeen v (nI i) = true) (h2 : xSeen v (nI j) = false) : xfRekey v (nI i) (nI j) = 0 := by
  rw [frek_is hi hj, if_neg e, h, h2]
  rfl
/-- what a write leaves as it was -/
theorem follow_o (v : XS) (k : Int32) : xA (xFollow v k) = xA v ∧ xB (xFollow v k) = xB v ∧ xp (xFollow v k) = xp v ∧ xt (xFollow v k) = xt v ∧ xq (xFollow v k) = xq v ∧ xk (xFollow v k) = xk v ∧ xl (xFollow v k) = xl v ∧ xm (xFollow v k) = xm v := by
  unfold xFollow
  by_cases h1 : xp v = 1
  · rw [if_pos h1]
    unfold xNote
    by_cases h2 : (1024 : Int32) ≤ xc v
    · rw [if_pos h2]
      exact ⟨rfl, rfl, rfl, rfl, rfl, rfl, rfl, rfl⟩
    · rw [if_neg h2]
      exact ⟨rfl, rfl, rfl, rfl, rfl, rfl, rfl, rfl⟩
  · rw [if_neg h1]
    by_cases h2 : xp v = 2
    · rw [if_pos h2]
      exact ⟨rfl, rfl, rfl, rfl, rfl, rfl, rfl, rfl⟩
    · rw [if_neg h2]
      exact ⟨rfl, rfl, rfl, rfl, rfl, rfl, rfl, rfl⟩
theorem follow_c1 {v : XS} {c : Nat} (hp : xp v = 1) (hc : c < 1024) (h : xc v = nI c) (k : Int32) : xc (xFollow v k) = xc v + 1 := by
  unfold xFollow
  rw [if_pos hp, xNote_is hc h, h, nI_1]
  rfl
theorem follow_c0 {v : XS} (hp : ¬ xp v = 1) (k : Int32) : xc (xFollow v k) = xc v := by
  unfold xFollow
  rw [if_neg hp]
  by_cases h2 : xp v = 2
  · rw [if_pos h2]
    rfl
  · rw [if_neg h2]
theorem follow_s {v : XS} (hp : ¬ xp v = 2) (k : Int32) : xC0 (xFollow v k) = xC0 v := by
  unfold xFollow
  by_cases h1 : xp v = 1
  · rw [if_pos h1]
    unfold xNote
    by_cases h2 : (1024 : Int32) ≤ xc v
    · rw [if_pos h2]
    · rw [if_neg h2]
      rfl
  · rw [if_neg h1, if_neg hp]
theorem lO_of {v v' : XS} (h1 : xA v' = xA v) (h2 : xB v' = xB v) : lO v' = lO v := by
  unfold lO
  rw [h1, h2]
theorem lO_follow (v : XS) (k : Int32) : lO (xFollow v k) = lO v := lO_of (follow_o v k).1 (follow_o v k).2.1
theorem lO_put {v : XS} {i : Nat} (hi : i < 40) (a b : Int32) : lO (xPut v (nI i) a b) = upd (lO v) i (if a = -1 then -1 else 1000 * a + b) := funext fun j => by
  show (if upd (xA v) (nI i).toNatClampNeg a j = -1 then -1 else 1000 * upd (xA v) (nI i).toNatClampNeg a j + upd (xB v) (nI i).toNatClampNeg b j) = _
  rw [kx hi]
  by_cases e : j = i
  · subst e
    rw [pk_us, pk_us, pk_us]
  · rw [pk_un e, pk_un e, pk_un e]
    rfl
theorem lO_self (f : Nat → Int32) (i : Nat) : upd f i (f i) = f := funext fun j => by
  by_cases e : j = i
  · subst e
    rw [pk_us]
  · rw [pk_un e]
theorem lC_of {v v' : XS} {z : Int32} (h : xp v' = xp v ∧ xt v' = xt v ∧ xq v' = xq v ∧ xk v' = xk v ∧ xl v' = xl v ∧ xm v' = xm v) (hz : z = xc v') : lK (xp v) (xt v) (xq v) (xk v) (xl v) (xm v) z = lC v' := by
  obtain ⟨e0, e1, e2, e3, e4, e5⟩ := h
  unfold lC
  rw [e0, e1, e2, e3, e4, e5, hz]
theorem add0 (x : Int32) : x + 0 = x := Int32.add_zero x
theorem lC_0 (v : XS) : lK (xp v) (xt v) (xq v) (xk v) (xl v) (xm v) (xc v + 0) = lC v := lC_of ⟨rfl, rfl, rfl, rfl, rfl, rfl⟩ (add0 _)
theorem lC_w1 {v : XS} {c : Nat} (hp : xp v = 1) (hc : c < 1024) (h : xc v = nI c) (i k a b : Int32) : lK (xp v) (xt v) (xq v) (xk v) (xl v) (xm v) (xc v + 1) = lC (xFollow (xPut v i a b) k) :=
  lC_of (v := v) ⟨(follow_o _ k).2.2.1, (follow_o _ k).2.2.2.1, (follow_o _ k).2.2.2.2.1, (follow_o _ k).2.2.2.2.2.1, (follow_o _ k).2.2.2.2.2.2.1, (follow_o _ k).2.2.2.2.2.2.2⟩ (follow_c1 (v := xPut v i a b) hp hc h k).symm
theorem lC_w0 {v : XS} (hp : ¬ xp v = 1) (i k a b : Int32) : lK (xp v) (xt v) (xq v) (xk v) (xl v) (xm v) (xc v + 0) = lC (xFollow (xPut v i a b) k) :=
  lC_of (v := v) ⟨(follow_o _ k).2.2.1, (follow_o _ k).2.2.2.1, (follow_o _ k).2.2.2.2.1, (follow_o _ k).2.2.2.2.2.1, (follow_o _ k).2.2.2.2.2.2.1, (follow_o _ k).2.2.2.2.2.2.2⟩ ((add0 _).trans (follow_c0 (v := xPut v i a b) hp k).symm)
theorem lO_w {v : XS} {i : Nat} (hi : i < 40) {x y : Nat} (hx : x ≤ 999) (k : Int32) : upd (lO v) i (nI (1000 * x + y)) = lO (xFollow (xPut v (nI i) (nI x) (nI y)) k) := by
  rw [lO_follow, lO_put hi, if_neg (nI_m1 (by omega)), row_n]
theorem lO_d {v : XS} {i : Nat} (hi : i < 40) (b k : Int32) : upd (lO v) i (-1) = lO (xFollow (xPut v (nI i) (-1) b) k) := by
  rw [lO_follow, lO_put hi, if_pos rfl]
theorem rek_o (v : XS) (i j : Int32) : xA (xRekey v i j) = xA (xPut (xPut v j (xA v i.toNatClampNeg) (xB v i.toNatClampNeg)) i (-1) (-1)) ∧ xB (xRekey v i j) = xB (xPut (xPut v j (xA v i.toNatClampNeg) (xB v i.toNatClampNeg)) i (-1) (-1)) ∧ xp (xRekey v i j) = xp v ∧ xt (xRekey v i j) = xt v ∧ xq (xRekey v i j) = xq v ∧ xk (xRekey v i j) = xk v ∧ xl (xRekey v i j) = xl v ∧ xm (xRekey v i j) = xm v := by
  unfold xRekey
  obtain ⟨a0, a1, a2, a3, a4, a5, a6, a7⟩ := follow_o (xFollow (xPut (xPut v j (xA v i.toNatClampNeg) (xB v i.toNatClampNeg)) i (-1) (-1)) (kMin i j)) (kMax i j)
  obtain ⟨b0, b1, b2, b3, b4, b5, b6, b7⟩ := follow_o (xPut (xPut v j (xA v i.toNatClampNeg) (xB v i.toNatClampNeg)) i (-1) (-1)) (kMin i j)
  exact ⟨a0.trans b0, a1.trans b1, a2.trans b2, a3.trans b3, a4.trans b4, a5.trans b5, a6.trans b6, a7.trans b7⟩
theorem two_c1 {u : XS} {c : Nat} (hp : xp u = 1) (hc : c + 1 < 1024) (h : xc u = nI c) (k k' : Int32) : xc u + 2 = xc (xFollow (xFollow u k) k') := by
  have h1 := follow_c1 hp (by omega) h k
  have h3 : xp (xFollow u k) = 1 := (follow_o u k).2.2.1.trans hp
  generalize xFollow u k = w at h1 h3
  have h2 : xc w = nI (c + 1) := by rw [h1, h, nI_1]
  rw [follow_c1 h3 hc h2, h2, h, nI_1]
  show nI c + nI 2 = _
  rw [nI_add]
theorem rek_c1 {v : XS} {c : Nat} (hp : xp v = 1) (hc : c + 1 < 1024) (h : xc v = nI c) (i j : Int32) : xc v + 2 = xc (xRekey v i j) :=
  two_c1 (u := xPut (xPut v j (xA v i.toNatClampNeg) (xB v i.toNatClampNeg)) i (-1) (-1)) hp hc h (kMin i j) (kMax i j)
theorem two_c0 {u : XS} (hp : ¬ xp u = 1) (k k' : Int32) : xc u + 0 = xc (xFollow (xFollow u k) k') := by
  have h1 := follow_c0 hp k
  have h3 : ¬ xp (xFollow u k) = 1 := by rw [(follow_o u k).2.2.1]; exact hp
  generalize xFollow u k = w at h1 h3
  rw [follow_c0 h3, h1]
  exact add0 _
theorem rek_c0 {v : XS} (hp : ¬ xp v = 1) (i j : Int32) : xc v + 0 = xc (xRekey v i j) :=
  two_c0 (u := xPut (xPut v j (xA v i.toNatClampNeg) (xB v i.toNatClampNeg)) i (-1) (-1)) hp (kMin i j) (kMax i j)
theorem lO_k {v : XS} {i j : Nat} (hi : i < 40) (hj : j < 40) (ho : xOld v (nI i) = true) : upd (upd (lO v) j (lO v i)) i (-1) = lO (xRekey v (nI i) (nI j)) := by
  rw [lO_of (rek_o v (nI i) (nI j)).1 (rek_o v (nI i) (nI j)).2.1, lO_put hi, if_pos rfl, lO_put hj, kx hi]
  have e : lO v i = if xA v i = -1 then -1 else 1000 * xA v i + xB v i := rfl
  rw [e]
/-- rows of the shadow, counted -/
theorem rows_eq {v v' : XS} (h : xC0 v' = xC0 v) : xShRows v' 40 = xShRows v 40 := kSum_congr fun i _ => by
  unfold xSh
  show b2i (!decide (xC0 v' _ = -1)) = b2i (!decide (xC0 v _ = -1))
  rw [h]
def dN (v : XS) : Int32 := kSum (fun i => b2i (lDue v (nI i))) 40
theorem cut_rows {n c m : Nat} {v : XS} (h : zX zE n c m v) (hp : xp v = 2) : xShRows v 40 = dN v := kSum_congr fun i hi => by
  rcases h.2.2.2 with ⟨q, -⟩ | ⟨q, -⟩ | ⟨-, -, -, q⟩
  · rw [q] at hp
    exact absurd hp (by decide)
  · rw [q] at hp
    exact absurd hp (by decide)
  · rw [zB_sh h.1.2.1 hi (h.1.1 i hi).1 ((q i hi).elim False.elim id)]
theorem cut_seen {n c m : Nat} {v : XS} (h : zX zE n c m v) (hp : xp v = 2) {i : Nat} (hi : i < 40) : xSeen v (nI i) = lDue v (nI i) := by
  rcases h.2.2.2 with ⟨q, -⟩ | ⟨q, -⟩ | ⟨-, -, -, q⟩
  · rw [q] at hp
    exact absurd hp (by decide)
  · rw [q] at hp
    exact absurd hp (by decide)
  · unfold xSeen
    rw [zB_sh h.1.2.1 hi (h.1.1 i hi).1 ((q i hi).elim False.elim id), decide_eq_true hp]
    unfold lDue
    cases xOld v (nI i) <;> rfl
theorem lDue_of {v v' : XS} (h1 : xA v' = xA v) (h2 : xB v' = xB v) (h3 : xt v' = xt v) (h4 : xq v' = xq v) (k : Int32) : lDue v' k = lDue v k := by
  unfold lDue xOld xFits
  rw [h1, h2, h3, h4]
theorem lDue_follow (v : XS) (k j : Int32) : lDue (xFollow v k) j = lDue v j := lDue_of (follow_o v k).1 (follow_o v k).2.1 (follow_o v k).2.2.2.1 (follow_o v k).2.2.2.2.1 j
theorem lDue_self {v : XS} {i : Nat} (a b : Int32) : lDue (xPut v (nI i) a b) (nI i) = (!decide (a = -1) && xFits v b) := by
  unfold lDue xOld
  show (!decide (upd (xA v) (nI i).toNatClampNeg a (nI i).toNatClampNeg = -1) && xFits v (upd (xB v) (nI i).toNatClampNeg b (nI i).toNatClampNeg)) = _
  rw [pk_us, pk_us]
theorem xp_w (v : XS) (i k a b : Int32) : xp (xFollow (xPut v i a b) k) = xp v := (follow_o (xPut v i a b) k).2.2.1
theorem rows_w {n c m n' : Nat} {v : XS} (h : zX zE n c m v) (hp : xp v = 2) {i : Nat} (hi : i < 40) (a b : Int32) (h' : zI n' (xFollow (xPut v (nI i) a b) (nI i))) : xShRows (xFollow (xPut v (nI i) a b) (nI i)) 40 + b2i (lDue v (nI i)) = xShRows v 40 + b2i (!decide (a = -1) && xFits v b) := by
  obtain ⟨c', m', h'⟩ := h'
  have e0 : lDue (xFollow (xPut v (nI i) a b) (nI i)) (nI i) = (!decide (a = -1) && xFits v b) := (lDue_follow _ _ _).trans (lDue_self a b)
  have e1 : ∀ j, j < 40 → j ≠ i → lDue (xFollow (xPut v (nI i) a b) (nI i)) (nI j) = lDue v (nI j) := fun j hj e => (lDue_follow _ _ _).trans (lDue_put hi hj e a b)
  have hp' := (xp_w v (nI i) (nI i) a b).trans hp
  generalize xFollow (xPut v (nI i) a b) (nI i) = w at h' e0 e1 hp' ⊢
  rw [cut_rows h hp, cut_rows h' hp', ← e0]
  exact kSum_upd (f := fun k => b2i (lDue w (nI k))) (g := fun k => b2i (lDue v (nI k))) hi (fun j hj e => congrArg b2i (e1 j hj e))
theorem cbw_fits {v : XS} {x y : Nat} (hx : x ≤ 999) (hy : y ≤ 999) (hp : xp v = 2) (h : xCbw v (nI x) (nI y) = true) : (!decide (nI x = -1) && xFits v (nI y)) = true := by
  rw [cbw_is hx hy, decide_eq_true hp] at h
  rw [decide_eq_false (nI_m1 (by omega))]
  exact h
theorem rows_ins {n c m n' : Nat} {v : XS} (h : zX zE n c m v) (hp : xp v = 2) {i x y : Nat} (hi : i < 40) (hx : x ≤ 999) (hy : y ≤ 999) (h' : zI n' (xFollow (xPut v (nI i) (nI x) (nI y)) (nI i))) (hc : xCbw v (nI x) (nI y) = true) (hs : xSeen v (nI i) = false) : xShRows (xFollow (xPut v (nI i) (nI x) (nI y)) (nI i)) 40 = xShRows v 40 + 1 := by
  have e := rows_w h hp hi _ _ h'
  rw [cut_seen h hp hi] at hs
  rw [hs, cbw_fits hx hy hp hc] at e
  exact (add0 _).symm.trans e
theorem i_cancel {a b : Int32} (h : a + 1 = b + 1) : a = b := by
  have := congrArg (· - 1) h
  simpa [Int32.add_sub_cancel] using this
theorem rows_upd {n c m n' : Nat} {v : XS} (h : zX zE n c m v) (hp : xp v = 2) {i x y : Nat} (hi : i < 40) (hx : x ≤ 999) (hy : y ≤ 999) (h' : zI n' (xFollow (xPut v (nI i) (nI x) (nI y)) (nI i))) (hc : xCbw v (nI x) (nI y) = true) (hs : xSeen v (nI i) = true) : xShRows (xFollow (xPut v (nI i) (nI x) (nI y)) (nI i)) 40 = xShRows v 40 := by
  have e := rows_w h hp hi _ _ h'
  rw [cut_seen h hp hi] at hs
  rw [hs, cbw_fits hx hy hp hc] at e
  exact i_cancel e
theorem rows_del {n c m n' : Nat} {v : XS} (h : zX zE n c m v) (hp : xp v = 2) {i : Nat} (hi : i < 40) (h' : zI n' (xFollow (xPut v (nI i) (-1) (-1)) (nI i))) (hs : xSeen v (nI i) = true) : xShRows (xFollow (xPut v (nI i) (-1) (-1)) (nI i)) 40 = xShRows v 40 - 1 := by
  have e := rows_w h hp hi _ _ h'
  rw [cut_seen h hp hi] at hs
  rw [hs] at e
  have e2 : xShRows (xFollow (xPut v (nI i) (-1) (-1)) (nI i)) 40 + 1 = xShRows v 40 := e.trans (add0 _)
  rw [← e2]
  simp [Int32.add_sub_cancel]
theorem rows_0 {v : XS} (hp : ¬ xp v = 2) (i k a b : Int32) : xShRows (xFollow (xPut v i a b) k) 40 = xShRows v 40 := rows_eq (follow_s (v := xPut v i a b) hp k)
theorem rows_k0 {v : XS} (hp : ¬ xp v = 2) (i j : Int32) : xShRows (xRekey v i j) 40 = xShRows v 40 := rows_eq (by
  unfold xRekey
  rw [follow_s (by rw [(follow_o _ _).2.2.1]; exact hp), follow_s (v := xPut (xPut v j (xA v i.toNatClampNeg) (xB v i.toNatClampNeg)) i (-1) (-1)) hp]
  rfl)
theorem rows_k2 {n c m n' : Nat} {v : XS} (h : zX zE n c m v) (hp : xp v = 2) {i j : Nat} (hi : i < 40) (hj : j < 40) (he : ¬ nI i = nI j) (h' : zI n' (xRekey v (nI i) (nI j))) (hs : xSeen v (nI i) = true) (hs2 : xSeen v (nI j) = false) : xShRows (xRekey v (nI i) (nI j)) 40 = xShRows v 40 := by
  obtain ⟨c', m', h'⟩ := h'
  rw [cut_seen h hp hi] at hs
  rw [cut_seen h hp hj] at hs2
  obtain ⟨r0, r1, r2, r3, r4, -⟩ := rek_o v (nI i) (nI j)
  rw [cut_rows h hp, cut_rows h' (r2.trans hp)]
  have hne : i ≠ j := fun q => he (by rw [q])
  have d0 : ∀ k, lDue (xRekey v (nI i) (nI j)) k = lDue (xPut (xPut v (nI j) (xA v (nI i).toNatClampNeg) (xB v (nI i).toNatClampNeg)) (nI i) (-1) (-1)) k := fun k => lDue_of r0 r1 r3 r4 k
  have di : lDue (xRekey v (nI i) (nI j)) (nI i) = false := by
    rw [d0, lDue_self]
    rfl
  have dj : lDue (xRekey v (nI i) (nI j)) (nI j) = true := by
    rw [d0, lDue_put hi hj (Ne.symm hne), lDue_self, ← hs]
    rfl
  have dk : ∀ k, k < 40 → k ≠ i → k ≠ j → lDue (xRekey v (nI i) (nI j)) (nI k) = lDue v (nI k) := fun k hk q1 q2 => by
    rw [d0, lDue_put hi hk q1, lDue_put hj hk q2]
  have e1 := kSum_upd (f := fun k => b2i (lDue (xRekey v (nI i) (nI j)) (nI k))) (g := fun k => if k = i then 0 else b2i (lDue v (nI k))) hj (fun k hk q => by
    show b2i (lDue (xRekey v (nI i) (nI j)) (nI k)) = if k = i then 0 else b2i (lDue v (nI k))
    by_cases e : k = i
    · subst e
      rw [if_pos rfl, di]
      rfl
    · rw [if_neg e, dk k hk e q])
  have e2 := kSum_upd (f := fun k => if k = i then 0 else b2i (lDue v (nI k))) (g := fun k => b2i (lDue v (nI k))) hi (fun k hk q => if_neg q)
  rw [show (if i = i then (0 : Int32) else b2i (lDue v (nI i))) = 0 from if_pos rfl, hs] at e2
  rw [show (if j = i then (0 : Int32) else b2i (lDue v (nI j))) = b2i (lDue v (nI j)) from if_neg (Ne.symm hne), hs2, dj] at e1
  exact (add0 _).symm.trans (e1.trans (e2.trans (add0 _)))

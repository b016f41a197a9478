/-! MINE: what isTold finds. -/
theorem beh_1 {v : XS} {b : Bool} (h : xp v = 0) : (0 : Int32) = b2i (!decide (xp v = 0) && b) := by
  rw [decide_eq_true h]
  rfl
theorem beh_2 {v : XS} {b : Bool} (h : (!b) = true) : (0 : Int32) = b2i (!decide (xp v = 0) && b) := by
  cases b
  · cases decide (xp v = 0) <;> rfl
  · exact absurd h (by decide)
theorem beh_3 {v : XS} {b : Bool} (h0 : ¬ xp v = 0) (h : (!b) = false) : (1 : Int32) = b2i (!decide (xp v = 0) && b) := by
  rw [decide_eq_false h0]
  cases b
  · exact absurd h (by decide)
  · rfl
theorem su_f {v : XS} {k i : Nat} (h : xSh v (nI i) = false) : (0 : Int32) = zSu v k i := by
  unfold zSu
  rw [h]
  rfl
theorem su_t {v : XS} {k i : Nat} (h : xSh v (nI i) = true) : xC v k i = zSu v k i := by
  unfold zSu
  rw [h, if_pos rfl]
theorem du_0 {v : XS} {c : Int32} {i : Nat} (h : xp v = 0) : (0 : Int32) = zDu v c i := by
  unfold zDu
  rw [if_pos h]
theorem du_n {v : XS} {c : Int32} {i : Nat} (hq : zQ v) (hi : i < 40) (hA : zA v i) (h0 : ¬ xp v = 0) (h : ¬ 0 ≤ xBro v (nI i) c) : (0 : Int32) = zDu v c i := by
  unfold zDu
  rw [if_neg h0, if_pos]
  rcases l_bro_ge hq hi hA c with e | ⟨n, hn, e⟩
  · exact e
  · rw [e] at h
    exact absurd (nI_pos' hn) h
theorem du_p {v : XS} {c : Int32} {i : Nat} (h0 : ¬ xp v = 0) (h : 0 ≤ xBro v (nI i) c) : xBro v (nI i) c = zDu v c i := by
  unfold zDu
  rw [if_neg h0, if_neg]
  intro e
  rw [e] at h
  exact absurd h (by decide)
theorem hz_of {v : XS} (h : zV v) : ∀ j : Nat, narrow .boolean (.int (xR v j)) = .int (xR v j) := fun j => by
  rcases h.2.2.2 j with e | e <;> rw [e] <;> rfl
theorem seen_old {v : XS} {k : Int32} (h : xSeen v k = true) : xOld v k = true := by
  unfold xSeen at h
  exact (Bool.and_eq_true_iff.mp h).1
theorem told_idle {n c m : Nat} {v : XS} (h : zX zE n c m v) {i : Nat} (hi : i < 40) (hp : ¬ 0 < xp v) : xSh v (nI i) = false ∧ xR v i = 0 := by
  rcases h.2.2.2 with ⟨-, -, q⟩ | ⟨q, -⟩ | ⟨q, -⟩
  · obtain ⟨q0, -, -, q3⟩ := q i hi
    refine ⟨?_, q3⟩
    unfold xSh
    rw [kx hi]
    show (!decide (xC0 v i = -1)) = false
    rw [q0]
    rfl
  · rw [q] at hp
    exact absurd (by decide) hp
  · rw [q] at hp
    exact absurd (by decide) hp
theorem told_cut {n c m : Nat} {v : XS} (h : zX zE n c m v) {i : Nat} (hi : i < 40) (hp : xp v = 2) : xBeh v (nI i) = false ∧ xR v i = b2i (xOld v (nI i) && !xSh v (nI i)) := by
  rcases h.2.2.2 with ⟨q, -⟩ | ⟨q, -⟩ | ⟨-, -, -, q⟩
  · rw [q] at hp
    exact absurd hp (by decide)
  · rw [q] at hp
    exact absurd hp (by decide)
  · have hB := (q i hi).elim False.elim id
    refine ⟨zB_beh hi hB, ?_⟩
    rw [zB_sh h.1.2.1 hi (h.1.1 i hi).1 hB]
    exact zB_ref hi hB
theorem ref_a {v : XS} {k : Int32} (h : xOld v k = false) : (0 : Int32) = b2i (xOld v k && !xSh v k) := by
  rw [h]
  rfl
theorem ref_b {v : XS} {k : Int32} (h : xSh v k = true) : (0 : Int32) = b2i (xOld v k && !xSh v k) := by
  rw [h]
  cases xOld v k <;> rfl
theorem ref_c {v : XS} {k : Int32} (h : xOld v k = true) (h2 : xSh v k = false) : (1 : Int32) = b2i (xOld v k && !xSh v k) := by
  rw [h, h2]
  rfl
theorem n3k (k : Nat) : (3 : Int32) + nI k = nI (k + 3) := by
  rw [show (3 : Int32) = nI 3 from rfl, nI_add, Nat.add_comm]

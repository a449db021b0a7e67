theorem rem_ne (x : Int32) {d : Nat} (h0 : 0 < d) (hd : d < 2 ^ 31) : ¬ x - x / nI d * nI d = nI d := by
  intro q
  rcases Int.lt_or_le x.toInt 0 with hx | hx
  · have hlo : -(2 ^ 31 : Int) ≤ x.toInt := Int32.le_toInt x
    obtain ⟨a, ha, ha2⟩ : ∃ a : Nat, x.toInt = -(a : Int) ∧ a ≤ 2 ^ 31 := ⟨(-x.toInt).toNat, by omega, by omega⟩
    obtain ⟨k, hkk⟩ : ∃ k : Nat, k = a / d := ⟨_, rfl⟩
    have hk : k * d ≤ a := by rw [hkk]; exact Nat.div_mul_le_self a d
    have hk2 : k ≤ a := by rw [hkk]; exact Nat.div_le_self a d
    obtain ⟨P, hP⟩ : ∃ P : Nat, P = k * d := ⟨_, rfl⟩
    have h1 : (x / nI d).toInt = -(k : Int) := by
      rw [Int32.toInt_div, nI_toInt hd, ha, Int.neg_tdiv]
      rw [show ((a : Int)).tdiv (d : Int) = ((a / d : Nat) : Int) from rfl, ← hkk]
      exact Int.bmod_eq_of_le (by omega) (by omega)
    have h2 : (x / nI d * nI d).toInt = -(P : Int) := by
      rw [Int32.toInt_mul, h1, nI_toInt hd, show -(k : Int) * (d : Int) = -(P : Int) from by rw [hP, Int.neg_mul, Int.natCast_mul]]
      exact Int.bmod_eq_of_le (by omega) (by omega)
    have h3 : (x - x / nI d * nI d).toInt = -(a : Int) + (P : Int) := by
      rw [Int32.toInt_sub, h2, ha]
      rw [show -(a : Int) - -(P : Int) = -(a : Int) + (P : Int) from by omega]
      exact Int.bmod_eq_of_le (by omega) (by omega)
    rw [q, nI_toInt hd] at h3
    omega
  · have hhi : x.toInt < 2 ^ 31 := Int32.toInt_lt x
    obtain ⟨a, ha, rfl⟩ : ∃ a : Nat, a < 2 ^ 31 ∧ x = nI a := by
      refine ⟨x.toInt.toNat, by omega, ?_⟩
      apply Int32.toInt_inj.mp
      rw [nI_toInt (by omega)]; omega
    rw [pk_rem ha h0 hd] at q
    have h5 := (nI_eq (Nat.lt_trans (Nat.mod_lt a h0) hd) hd).mp q
    have h6 := Nat.mod_lt a h0
    omega
theorem sub_ne {r : Int32} {d : Nat} (h : ¬ r = nI d) : ¬ nI d - r = 0 := by
  intro q
  apply h
  have h2 := congrArg (· + r) q
  simp only [Int32.sub_add_cancel, Int32.zero_add] at h2
  exact h2.symm
theorem im_out2 {i : Int32} (h : i < nI 0 ∨ nI 1 < i) : ¬ (i = 0 ∨ i = 1) := by
  rintro (q | q) <;> subst q <;> revert h <;> decide

-- NUMBERS
theorem xor_nn {a b : Nat} (ha : a < 2 ^ 31) (hb : b < 2 ^ 31) : 0 ≤ nI a ^^^ nI b := by
  have e : nI a ^^^ nI b = nI (a ^^^ b) := by
    apply Int32.toBitVec_inj.mp
    show BitVec.ofNat 32 a ^^^ BitVec.ofNat 32 b = BitVec.ofNat 32 (a ^^^ b)
    apply BitVec.eq_of_toNat_eq
    simp [Nat.xor_mod_two_pow]
  rw [e]
  exact nI_pos' (Nat.xor_lt_two_pow ha hb)
theorem fm_nI {i n : Nat} (hi : i < 2 ^ 31) (h0 : 0 < n) (hn : n < 2 ^ 31) : f_J_floorMod (nI i) (nI n) = nI (i % n) := by
  unfold f_J_floorMod
  rw [if_pos (xor_nn hi hn), pk_rem hi h0 hn]
theorem slot_nI {r i n : Nat} (hi : i < 2 ^ 31) (h0 : 0 < n) (hn : n < 2 ^ 31) : f_R_slot r n (nI i) = nI (i % n) := fm_nI hi h0 hn
theorem slot_tn {r i n : Nat} (hi : i < 2 ^ 31) (h0 : 0 < n) (hn : n < 2 ^ 31) : (f_R_slot r n (nI i)).toNatClampNeg = i % n := by
  rw [slot_nI hi h0 hn, nI_clamp (Nat.lt_of_lt_of_le (Nat.mod_lt _ h0) (by omega))]
theorem oks_nI {r i n : Nat} (hi : i < 2 ^ 31) (h0 : 0 < n) (hn : n < 2 ^ 31) : ok_R_slot r n (nI i) ∧ vp_in (f_R_slot r n (nI i)) n := by
  refine ⟨nI_ne0 h0 hn, ?_⟩
  rw [slot_nI hi h0 hn]
  exact vp_in_nI (Nat.mod_lt _ h0) hn
theorem Mb_nI {p : Nat} (hp : p < 3) : Mb (nI p) = 2 + 14 * p := by
  unfold Mb
  rw [nI_clamp (by omega)]
theorem ch_nI {p q : Nat} : nI p * 3 + nI q = nI (3 * p + q) := by
  rw [show (3 : Int32) = nI 3 from rfl, pk_mul, nI_add, Nat.mul_comm]
theorem ch_nI' {p q : Nat} : 3 * nI p + nI q = nI (3 * p + q) := by
  rw [show (3 : Int32) = nI 3 from rfl, pk_mul, nI_add]
theorem Cb_nI {p q : Nat} (hp : p < 3) (hq : q < 3) : Cb (nI p * 3 + nI q) = 45 + 3 * (3 * p + q) := by
  unfold Cb
  rw [ch_nI, nI_clamp (by omega)]
theorem ip_cases (x : Int32) : (f_G_isProcess x = 0 ∧ f_X_isProcess x = 0) ∨ ∃ p, p < 3 ∧ x = nI p ∧ f_G_isProcess x = 1 ∧ f_X_isProcess x = 1 := by
  unfold f_G_isProcess f_X_isProcess
  rcases pk_ix x (n := 3) (by decide) with h | h | ⟨j, hj, rfl⟩
  · exact Or.inl ⟨if_pos h, if_pos h⟩
  · by_cases h0 : x < 0
    · exact Or.inl ⟨if_pos h0, if_pos h0⟩
    · have h : (3 : Int32) ≤ x := h
      exact Or.inl ⟨by rw [if_neg h0, if_pos h], by rw [if_neg h0, if_pos h]⟩
  · have h1 : ¬ nI j < 0 := nI_pos (by omega)
    have h2 : ¬ (3 : Int32) ≤ nI j := nI_ge hj (by decide)
    exact Or.inr ⟨j, hj, rfl, by rw [if_neg h1, if_neg h2], by rw [if_neg h1, if_neg h2]⟩
theorem ir_cases (x : Int32) : (f_G_isRegister x = 0 ∧ f_X_isRegister x = 0) ∨ ∃ p, p < 4 ∧ x = nI p ∧ f_G_isRegister x = 1 ∧ f_X_isRegister x = 1 := by
  unfold f_G_isRegister f_X_isRegister
  rcases pk_ix x (n := 4) (by decide) with h | h | ⟨j, hj, rfl⟩
  · exact Or.inl ⟨if_pos h, if_pos h⟩
  · by_cases h0 : x < 0
    · exact Or.inl ⟨if_pos h0, if_pos h0⟩
    · have h : (4 : Int32) ≤ x := h
      exact Or.inl ⟨by rw [if_neg h0, if_pos h], by rw [if_neg h0, if_pos h]⟩
  · have h1 : ¬ nI j < 0 := nI_pos (by omega)
    have h2 : ¬ (4 : Int32) ≤ nI j := nI_ge hj (by decide)
    exact Or.inr ⟨j, hj, rfl, by rw [if_neg h1, if_neg h2], by rw [if_neg h1, if_neg h2]⟩
theorem ic_cases (x y : Int32) : (f_G_isChannel x y = 0 ∧ f_X_isChannel x y = 0) ∨ ∃ p q, p < 3 ∧ q < 3 ∧ p ≠ q ∧ x = nI p ∧ y = nI q ∧ f_G_isChannel x y = 1 ∧ f_X_isChannel x y = 1 := by
  unfold f_G_isChannel f_X_isChannel
  rcases ip_cases x with ⟨h1, h2⟩ | ⟨p, hp, rfl, h1, h2⟩
  · exact Or.inl ⟨if_pos h1, if_pos h2⟩
  · have n1 : ¬ f_G_isProcess (nI p) = 0 := by rw [h1]; decide
    have n2 : ¬ f_X_isProcess (nI p) = 0 := by rw [h2]; decide
    rcases ip_cases y with ⟨h3, h4⟩ | ⟨q, hq, rfl, h3, h4⟩
    · exact Or.inl ⟨by rw [if_neg n1, if_pos h3], by rw [if_neg n2, if_pos h4]⟩
    · have n3 : ¬ f_G_isProcess (nI q) = 0 := by rw [h3]; decide
      have n4 : ¬ f_X_isProcess (nI q) = 0 := by rw [h4]; decide
      by_cases hpq : p = q
      · subst hpq
        exact Or.inl ⟨by rw [if_neg n1, if_neg n3, if_pos rfl], by rw [if_neg n2, if_neg n4, if_pos rfl]⟩
      · have e : ¬ nI p = nI q := fun h => hpq ((nI_eq (by omega) (by omega)).mp h)
        exact Or.inr ⟨p, q, hp, hq, hpq, rfl, rfl, by rw [if_neg n1, if_neg n3, if_neg e], by rw [if_neg n2, if_neg n4, if_neg e]⟩
theorem ne1 {x : Int32} (h : x = 1) : ¬ x = 0 := by rw [h]; decide

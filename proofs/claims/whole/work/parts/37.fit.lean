-- THE START, and each call of the loop
theorem I0_z {k j : Nat} (h : ¬ j = 0 ∨ (¬ k = 2 ∧ ¬ k = 16 ∧ ¬ k = 30)) : I0 k j = nI 0 := by
  unfold I0
  by_cases h1 : k = 2
  · rw [if_pos h1]
    exact if_neg (by omega)
  · rw [if_neg h1]
    by_cases h2 : k = 16
    · rw [if_pos h2]
      exact if_neg (by omega)
    · rw [if_neg h2]
      by_cases h3 : k = 30
      · rw [if_pos h3]
        exact if_neg (by omega)
      · rw [if_neg h3]
        rfl
theorem I0_u {p : Nat} (hp : p < 3) : I0 (2 + 14 * p) 0 = 1 := by
  rcases (show p = 0 ∨ p = 1 ∨ p = 2 by omega) with rfl | rfl | rfl <;> rfl
theorem rel0 : Rel 0 I0 I0 := by
  refine ⟨fun _ => 0, fun _ => 0, fun _ => 0, fun _ => 0, fun _ => 0, fun _ _ _ => nI 0, fun _ => 0, fun _ => 0, 0, ⟨fun p hp => ⟨⟨?_, ?_, ?_, ?_⟩, Nat.le_refl _, Nat.zero_le _⟩, fun c hc => ⟨?_, Nat.zero_le _⟩, ?_⟩, fun p hp => ⟨?_, ?_⟩⟩
  · exact ⟨Nat.zero_le _, I0_z (by omega), I0_z (by omega), fun i hi => absurd hi (Nat.not_lt_zero _)⟩
  · exact ⟨by omega, by omega, I0_z (by omega), I0_z (by omega), I0_z (by omega), I0_z (by omega), fun i _ hi => absurd hi (by omega)⟩
  · exact ⟨Or.inl ⟨I0_u hp, I0_z (by omega)⟩, (I0_z (by omega)).trans (I0_z (by omega)).symm, (I0_z (by omega)).trans (I0_z (by omega)).symm⟩
  · have v (a : Nat) (h1 : a = 5 ∨ a = 8) : vst I0 (2 + 14 * p + a) (fun _ => nI 0) := ⟨fun j _ => I0_z (by omega), fun j _ => I0_z (by omega), I0_z (by omega), I0_z (by omega), I0_z (by omega), I0_z (by omega)⟩
    exact ⟨fun _ => rfl, fun k hk => absurd hk (Nat.not_lt_zero _), Nat.le_refl _, v 5 (Or.inl rfl), v 8 (Or.inr rfl), ⟨0, rfl, Nat.le_refl _, Nat.le_refl _⟩, rfl, ⟨0, by omega, rfl⟩, ⟨0, by omega, rfl⟩⟩
  · exact ⟨by omega, by omega, I0_z (by omega), I0_z (by omega), I0_z (by omega), I0_z (by omega), fun i _ hi => absurd hi (by omega)⟩
  · exact ⟨by omega, I0_z (by omega), I0_z (by omega), I0_z (by omega), fun i hi => absurd hi (by omega)⟩
  · exact ⟨I0_z (by omega), I0_z (by omega)⟩
  · exact ⟨(I0_z (by omega)).trans (I0_z (by omega)).symm, Or.inl (I0_z (by omega)), fun _ => rfl⟩
theorem Sim.fit {k : Nat} {okG okX : Mm → Prop} {fG fX : Mm → Int32 × Mm} {J : Mm} (H : Sim k okG okX fG fX) (h : Rel k J J) : okG J ∧ (okX (fG J).2 ∧ (((fG J).1 = (fX (fG J).2).1 → Rel (k + 1) (fX (fG J).2).2 (fX (fG J).2).2) ∧ (¬ (fG J).1 = (fX (fG J).2).1 → False))) := by
  obtain ⟨a1, a2, a3, a4⟩ := H.use h
  exact ⟨a1, a2, fun _ => a4, fun z => z a3⟩
theorem fits_W {xs : Nat → Int32} {L k : Nat} {J : Mm} (hL : L ≤ 2560) (hk : k < 512) (h : Rel k J J) (h5 : 5 * k ≤ L) : okW (fun k J => Rel k J J) xs L k J (nI (5 * k)) := by
  unfold okW
  refine ⟨fun _ => trivial, fun hn => ?_⟩
  have h6 := hgo hL h5 hn
  have i0 : vp_in (nI (5 * k)) L := vp_in_nI (by omega) (by omega)
  have i1 : vp_in (nI (5 * k) + 1) L := by rw [nI_1]; exact vp_in_nI (by omega) (by omega)
  have i2 : vp_in (nI (5 * k) + 2) L := by rw [show (2 : Int32) = nI 2 from rfl, nI_add]; exact vp_in_nI (by omega) (by omega)
  have i3 : vp_in (nI (5 * k) + 3) L := by rw [show (3 : Int32) = nI 3 from rfl, nI_add]; exact vp_in_nI (by omega) (by omega)
  have i4 : vp_in (nI (5 * k) + 4) L := by rw [show (4 : Int32) = nI 4 from rfl, nI_add]; exact vp_in_nI (by omega) (by omega)
  refine ⟨i0, ?_⟩
  refine ⟨fun _ => ⟨i1, i2, i3, i4, (sim_code (k := k) (x := xs (nI (5 * k) + 1).toNatClampNeg) (op := xs (nI (5 * k) + 2).toNatClampNeg) (a := xs (nI (5 * k) + 3).toNatClampNeg) (b := xs (nI (5 * k) + 4).toNatClampNeg)).fit h⟩, fun _ => ?_⟩
  refine ⟨fun _ => ⟨i1, i2, (sim_input (k := k) (x := xs (nI (5 * k) + 1).toNatClampNeg) (y := xs (nI (5 * k) + 2).toNatClampNeg) hk).fit h⟩, fun _ => ?_⟩
  refine ⟨fun _ => ⟨i1, i2, (sim_deliver (k := k) (x := xs (nI (5 * k) + 1).toNatClampNeg) (y := xs (nI (5 * k) + 2).toNatClampNeg) hk).fit h⟩, fun _ => ?_⟩
  refine ⟨fun _ => ⟨i1, (sim_step (k := k) (x := xs (nI (5 * k) + 1).toNatClampNeg) hk).fit h⟩, fun _ => ?_⟩
  refine ⟨fun _ => ⟨i1, i2, (sim_run (k := k) (x := xs (nI (5 * k) + 1).toNatClampNeg) (y := xs (nI (5 * k) + 2).toNatClampNeg) hk).fit h⟩, fun _ => ?_⟩
  refine ⟨fun _ => ⟨i1, (sim_checkpoint (k := k) (x := xs (nI (5 * k) + 1).toNatClampNeg) hk).fit h⟩, fun _ => ?_⟩
  refine ⟨fun _ => ⟨i1, (sim_crash (k := k) (x := xs (nI (5 * k) + 1).toNatClampNeg)).fit h⟩, fun _ => ?_⟩
  refine ⟨fun _ => ⟨i1, (sim_recover (k := k) (x := xs (nI (5 * k) + 1).toNatClampNeg) hk).fit h⟩, fun _ => ?_⟩
  refine ⟨fun _ => ⟨i1, i2, (sim_register (k := k) (x := xs (nI (5 * k) + 1).toNatClampNeg) (y := xs (nI (5 * k) + 2).toNatClampNeg) hk).fit h⟩, fun _ => ?_⟩
  refine ⟨fun _ => ⟨i1, i2, (sim_state (k := k) (x := xs (nI (5 * k) + 1).toNatClampNeg) (y := xs (nI (5 * k) + 2).toNatClampNeg) hk).fit h⟩, fun _ => ?_⟩
  refine ⟨fun _ => ⟨i1, i2, (sim_sent (k := k) (x := xs (nI (5 * k) + 1).toNatClampNeg) (y := xs (nI (5 * k) + 2).toNatClampNeg) hk).fit h⟩, fun _ => ?_⟩
  refine ⟨fun _ => ⟨i1, (sim_kept (k := k) (x := xs (nI (5 * k) + 1).toNatClampNeg)).fit h⟩, fun _ => ?_⟩
  refine ⟨fun _ => ⟨i1, i2, (sim_source (k := k) (x := xs (nI (5 * k) + 1).toNatClampNeg) (y := xs (nI (5 * k) + 2).toNatClampNeg) (Nat.le_of_lt hk)).fit h⟩, fun _ => ?_⟩
  refine ⟨fun _ => ⟨i1, i2, (sim_waiting (k := k) (x := xs (nI (5 * k) + 1).toNatClampNeg) (y := xs (nI (5 * k) + 2).toNatClampNeg)).fit h⟩, fun _ => ?_⟩
  refine ⟨fun _ => ⟨i1, (sim_held (k := k) (x := xs (nI (5 * k) + 1).toNatClampNeg)).fit h⟩, fun _ => ?_⟩
  refine ⟨fun _ => ((sim_outputs (k := k)).fit h).2.2, fun _ => ?_⟩
  refine ⟨fun _ => ⟨i1, (sim_author (k := k) (x := xs (nI (5 * k) + 1).toNatClampNeg)).fit h⟩, fun _ => ?_⟩
  refine ⟨fun _ => ⟨i1, (sim_output (k := k) (x := xs (nI (5 * k) + 1).toNatClampNeg)).fit h⟩, fun _ => ?_⟩
  exact Rel_mono h

-- checkpoint and recover
theorem tn4 : (4 : Int32).toNatClampNeg = 4 := by decide
theorem cp_s {C : Mm} {k k2 : Nat} (h : k + 3 ≤ k2 ∨ k2 + 3 ≤ k) : (∀ j, j < 4 → f_S_copyFrom C k k2 (k + 1) j = C (k2 + 1) j) ∧ (∀ j, j < 3 → f_S_copyFrom C k k2 (k + 2) j = C (k2 + 2) j) ∧ f_S_copyFrom C k k2 k 0 = C k2 0 ∧ f_S_copyFrom C k k2 k 1 = C k2 1 ∧ f_S_copyFrom C k k2 k 2 = C k2 2 ∧ f_S_copyFrom C k k2 k 3 = C k2 3 ∧ ∀ a, a ≠ k → a ≠ k + 1 → a ≠ k + 2 → f_S_copyFrom C k k2 a = C a := by
  have e1 : m_S_copyFrom_1 C k k2 = u1 C (k + 1) (va_cpy (C (k2 + 1)) (C (k + 1)) 0 0 4) := by
    unfold m_S_copyFrom_1
    rw [tn0, tn4]
  have e2 : m_S_copyFrom_2 C k k2 = u1 (u1 C (k + 1) (va_cpy (C (k2 + 1)) (C (k + 1)) 0 0 4)) (k + 2) (va_cpy (C (k2 + 2)) (C (k + 2)) 0 0 3) := by
    unfold m_S_copyFrom_2
    rw [e1, tn0, tn3, u1_n (a := k2 + 2) (by omega), u1_n (a := k + 2) (by omega)]
  have r2 : m_S_copyFrom_2 C k k2 k2 = C k2 := by rw [e2, u1_n (by omega), u1_n (by omega)]
  have r3 : m_S_copyFrom_3 C k k2 k2 = C k2 := by
    unfold m_S_copyFrom_3
    rw [u2_k (by omega), r2]
  have r4 : m_S_copyFrom_4 C k k2 k2 = C k2 := by
    unfold m_S_copyFrom_4
    rw [u2_k (by omega), r3]
  have r5 : m_S_copyFrom_5 C k k2 k2 = C k2 := by
    unfold m_S_copyFrom_5
    rw [u2_k (by omega), r4]
  have e6 : f_S_copyFrom C k k2 = u2 (u2 (u2 (u2 (m_S_copyFrom_2 C k k2) k 0 (C k2 0)) k 1 (C k2 1)) k 2 (C k2 2)) k 3 (C k2 3) := by
    unfold f_S_copyFrom m_S_copyFrom_6
    rw [r5]
    unfold m_S_copyFrom_5
    rw [r4]
    unfold m_S_copyFrom_4
    rw [r3]
    unfold m_S_copyFrom_3
    rw [r2]
  rw [e6, e2]
  refine ⟨fun j hj => ?_, fun j hj => ?_, ?_, ?_, ?_, ?_, fun a h1 h2 h3 => ?_⟩
  · rw [u2_k (by omega), u2_k (by omega), u2_k (by omega), u2_k (by omega), u1_n (by omega), u1_s, pk_cpy_in (by omega) (by omega)]
    congr 1
    omega
  · rw [u2_k (by omega), u2_k (by omega), u2_k (by omega), u2_k (by omega), u1_s, pk_cpy_in (by omega) (by omega)]
    congr 1
    omega
  · rw [u2_j (by decide), u2_j (by decide), u2_j (by decide), u2_s]
  · rw [u2_j (by decide), u2_j (by decide), u2_s]
  · rw [u2_j (by decide), u2_s]
  · rw [u2_s]
  · rw [u2_k h1, u2_k h1, u2_k h1, u2_k h1, u1_n h3, u1_n h2]
theorem cp_v {C : Mm} {k k2 : Nat} {u : Nat → Int32} (h : k + 3 ≤ k2 ∨ k2 + 3 ≤ k) (hv : vst C k2 u) : vst (f_S_copyFrom C k k2) k u := by
  obtain ⟨a1, a2, a3, a4, a5, a6, -⟩ := cp_s (C := C) h
  obtain ⟨v1, v2, v3, v4, v5, v6⟩ := hv
  exact ⟨fun j hj => (a1 j hj).trans (v1 j hj), fun j hj => (a2 j hj).trans (v2 j hj), a3.trans v3, a4.trans v4, a5.trans v5, a6.trans v6⟩
section SC
variable {k : Nat} {C X : Mm} {x y : Int32}
theorem sim_recover (hk : k < 512) : Sim k (fun _ => ok_G_recover x) (fun X => ok_X_recover X x) (fun C => f_G_recover C x) (fun X => f_X_recover X x) := by
  intro C X h
  dsimp only
  unfold ok_G_recover ok_X_recover f_G_recover f_X_recover
  rcases ip_cases x with ⟨e1, e2⟩ | ⟨p, hp, rfl, e1, e2⟩
  · rw [if_pos e1, if_pos e2]
    exact same h ⟨fun _ => trivial, fun z => absurd e1 z⟩ ⟨fun _ => trivial, fun z => absurd e2 z⟩
  · rw [if_neg (ne1 e1), if_neg (ne1 e2)]
    have okg : (f_G_isProcess (nI p) = 0 → True) ∧ (¬ f_G_isProcess (nI p) = 0 → vp_in (nI p) 3) := ⟨fun _ => trivial, fun _ => pin hp⟩
    have okx : (f_X_isProcess (nI p) = 0 → True) ∧ (¬ f_X_isProcess (nI p) = 0 → vp_in (nI p) 3 ∧ ((X 80 (nI p).toNatClampNeg = 0 → True) ∧ (¬ X 80 (nI p).toNatClampNeg = 0 → ok_X_kept0 (nI p)))) := ⟨fun _ => trivial, fun _ => ⟨pin hp, fun _ => trivial, fun _ => pin hp⟩⟩
    obtain ⟨ln, tt, sk, ag, sg, tr, dl, se, no, hc, hr⟩ := id h
    obtain ⟨⟨hP, hL, hF, hT⟩, n1, n2⟩ := hc.1 p hp
    rcases up_cases hp hF with ⟨d1, d2⟩ | ⟨d1, d2⟩
    · rw [if_neg (ne1 d1), if_pos d2]
      exact same h okg okx
    · rw [if_pos d1, if_neg (ne1 d2)]
      obtain ⟨-, -, -, -, c5, -, c7⟩ := cp_s (C := C) (k := 2 + 14 * p + 5) (k2 := 2 + 14 * p + 8) (by omega)
      obtain ⟨l1, l2, l3, l4, l5, l6, l7⟩ := id hL
      obtain ⟨t1, t2, t3, t4, t5, t6, t7, t8, t9⟩ := id hT
      have cpv := cp_v (C := C) (k := 2 + 14 * p + 5) (k2 := 2 + 14 * p + 8) (by omega) t5
      generalize hD : f_S_copyFrom C (2 + 14 * p + 5) (2 + 14 * p + 8) = D at c5 c7 cpv
      have eC : m_G_recover_1 C (nI p) = u2 D (2 + 14 * p) 0 1 := by unfold m_G_recover_1; rw [Mb_nI hp, hD]
      have eX : m_X_recover_2 X (nI p) = u2 (u2 X 80 p 0) 81 p (X 82 p) := by
        unfold m_X_recover_2 m_X_recover_1
        rw [nI_clamp (by omega), nb_0, u2_k (a := 82) (by decide)]
      have er : u2 D (2 + 14 * p) 0 1 (Mb (nI p) + 11) 1 - u2 D (2 + 14 * p) 0 1 (Mb (nI p) + 5) 2 = f_X_kept0 (u2 (u2 X 80 p 0) 81 p (X 82 p)) (nI p) := by
        unfold f_X_kept0
        rw [Mb_nI hp, nI_clamp (by omega), u2_k (a := 2 + 14 * p + 11) (by omega), u2_k (a := 2 + 14 * p + 5) (by omega), u2_k (a := 86) (by decide), u2_k (a := 86) (by decide), u2_k (a := 83) (by decide), u2_k (a := 83) (by decide), c7 (2 + 14 * p + 11) (by omega) (by omega) (by omega), c5, l4, l5, l6, t5.2.2.2.2.1, t7]
      rw [eC, eX, er]
      have fC (a : Nat) (h1 : a ≠ 2 + 14 * p) (h2 : a ≠ 2 + 14 * p + 5) (h3 : a ≠ 2 + 14 * p + 5 + 1) (h4 : a ≠ 2 + 14 * p + 5 + 2) : u2 D (2 + 14 * p) 0 1 a = C a := by rw [u2_k h1, c7 a h2 h3 h4]
      have fX (a : Nat) (h1 : a ≠ 80) (h2 : a ≠ 81) : u2 (u2 X 80 p 0) 81 p (X 82 p) a = X a := by rw [u2_k h2, u2_k h1]
      refine made okg okx ?_ (fun a ha => fC a (by omega) (by omega) (by omega) (by omega)) (fun a ha => fX a (by omega) (by omega))
      have cM (j : Nat) (hj : j ≠ 0) : u2 D (2 + 14 * p) 0 1 (2 + 14 * p) j = C (2 + 14 * p) j := by rw [u2_j hj, c7 _ (by omega) (by omega) (by omega)]
      refine Rel_one (p := p) (ln' := ln p) (tt' := tt p) (sk' := sk p) (ag' := sg p) (sg' := sg p) (tr' := tr p) hc hr (fun q hq hne a h1 h2 => fC a (by omega) (by omega) (by omega) (by omega)) ?_ ?_ ⟨rP_c hP (fun j h1 h2 => fC _ (by omega) (by omega) (by omega) (by omega)) (by rw [fX 76 (by decide) (by decide)]) (by intro i hi; rw [fX 77 (by decide) (by decide), fX 78 (by decide) (by decide), fX 79 (by decide) (by decide)]; exact ⟨rfl, rfl, rfl⟩), rL_c hL (fun j h1 h2 => fC _ (by omega) (by omega) (by omega) (by omega)) (by rw [fX 83 (by decide) (by decide)]) (by rw [fX 86 (by decide) (by decide)]) (fX 87 (by decide) (by decide)) (fX 88 (by decide) (by decide)), ⟨Or.inl ⟨u2_s, by rw [u2_k (by decide), u2_s]⟩, ?_, ?_⟩, ⟨t1, ?_, Nat.le_refl _, ?_, ?_, ⟨sk p, t7, Nat.le_refl _, l1⟩, t7, t9, t9⟩⟩ (by omega) (by omega) ?_ ?_ (chs_s hc (fun a h1 h2 => fC a (by omega) (by omega) (by omega) (by omega)) (fX 89 (by decide) (by decide)) (fX 90 (by decide) (by decide)) (fX 91 (by decide) (by decide))) (out_c hc.2.2 (fun a h1 h2 => fC a (by omega) (by omega) (by omega) (by omega)) (by rw [fX 75 (by decide) (by decide)]) (fX 92 (by decide) (by decide)) (fX 93 (by decide) (by decide)))
      · intro q hq hne
        unfold xeq
        rw [fX 76 (by decide) (by decide), fX 77 (by decide) (by decide), fX 78 (by decide) (by decide), fX 79 (by decide) (by decide), fX 83 (by decide) (by decide), fX 85 (by decide) (by decide), fX 86 (by decide) (by decide), fX 87 (by decide) (by decide), fX 88 (by decide) (by decide), fX 94 (by decide) (by decide), u2_k (a := 80) (by decide), u2_j hne]
        exact xeq_rfl
      · intro q hq hne
        rw [fX 82 (by decide) (by decide), fX 84 (by decide) (by decide), u2_j hne, u2_k (a := 81) (by decide)]
        exact ⟨rfl, rfl, rfl⟩
      · rw [cM 2 (by decide), fX 94 (by decide) (by decide)]; exact hF.2.1
      · rw [cM 3 (by decide), fX 85 (by decide) (by decide)]; exact hF.2.2
      · intro j hj
        exact stp_x hP.1 (Nat.le_refl _) (fun i _ => by rw [fX 77 (by decide) (by decide), fX 78 (by decide) (by decide), fX 79 (by decide) (by decide)]; exact ⟨rfl, rfl, rfl⟩) (fun i _ => by rw [fX 87 (by decide) (by decide), fX 88 (by decide) (by decide)]; exact ⟨rfl, rfl⟩) (t2 j (by omega))
      · exact vst_c cpv (u2_k (by omega)) (u2_k (by omega)) (u2_k (by omega))
      · exact vst_c t5 (fC _ (by omega) (by omega) (by omega) (by omega)) (fC _ (by omega) (by omega) (by omega) (by omega)) (fC _ (by omega) (by omega) (by omega) (by omega))
      · refine ⟨?_, ?_⟩
        · rw [u2_s]; exact (hr p hp).1.2
        · rw [fX 82 (by decide) (by decide)]; exact (hr p hp).1.2
      · unfold rB
        rw [cM 1 (by decide), fX 84 (by decide) (by decide)]
        obtain ⟨b1, b2, b3⟩ := (hr p hp).2
        exact ⟨b1, b2, fun z => by have := b3 z; omega⟩
theorem sim_checkpoint (hk : k < 512) : Sim k (fun _ => ok_G_checkpoint x) (fun X => ok_X_checkpoint X x) (fun C => f_G_checkpoint C x) (fun X => f_X_checkpoint X x) := by
  intro C X h
  dsimp only
  unfold ok_G_checkpoint ok_X_checkpoint f_G_checkpoint f_X_checkpoint
  rcases ip_cases x with ⟨e1, e2⟩ | ⟨p, hp, rfl, e1, e2⟩
  · rw [if_pos e1, if_pos e2]
    exact same h ⟨fun _ => trivial, fun z => absurd e1 z⟩ ⟨fun _ => trivial, fun z => absurd e2 z⟩
  · rw [if_neg (ne1 e1), if_neg (ne1 e2)]
    have okg : (f_G_isProcess (nI p) = 0 → True) ∧ (¬ f_G_isProcess (nI p) = 0 → vp_in (nI p) 3) := ⟨fun _ => trivial, fun _ => pin hp⟩
    obtain ⟨ln, tt, sk, ag, sg, tr, dl, se, no, hc, hr⟩ := id h
    obtain ⟨okL, hg⟩ := load_r hc (by omega) (by omega) hp (hr p hp).1.1
    have okx : (f_X_isProcess (nI p) = 0 → True) ∧ (¬ f_X_isProcess (nI p) = 0 → vp_in (nI p) 3 ∧ ((X 80 (nI p).toNatClampNeg = 0 → ok_X_load X (nI p)) ∧ (¬ X 80 (nI p).toNatClampNeg = 0 → True))) := ⟨fun _ => trivial, fun _ => ⟨pin hp, fun _ => okL, fun _ => trivial⟩⟩
    rcases up_cases hp (hc.1 p hp).1.2.2.1 with ⟨d1, d2⟩ | ⟨d1, d2⟩
    · rw [if_neg (ne1 d1), if_pos d2]
      have hc2 := Core_gd hc hg
      have hr2 : ∀ q, q < 3 → rA (f_X_load X (nI p)) q (ag q) (sg q) ∧ rB C (f_X_load X (nI p)) q (ag q) := fun q hq => ⟨rA_gd (hr q hq).1 hg, rB_gd (hr q hq).2 hg⟩
      have hLX : ∀ a, a < 75 → f_X_load X (nI p) a = X a := fun a ha => hg.2.1 a (by omega) (by omega) (by omega)
      have hm : m_X_checkpoint_2 X (nI p) = u2 (u2 (f_X_load X (nI p)) 82 p (f_X_load X (nI p) 81 p)) 83 p (f_X_load X (nI p) 75 2) := by
        unfold m_X_checkpoint_2 m_X_checkpoint_1
        rw [nI_clamp (by omega), u2_k (a := 75) (by decide)]
      rw [hm]
      generalize hY : f_X_load X (nI p) = Y at hg hc2 hr2 hLX
      obtain ⟨⟨hP, hL, hF, hT⟩, n1, n2⟩ := hc2.1 p hp
      obtain ⟨-, -, -, -, c5, -, c7⟩ := cp_s (C := C) (k := 2 + 14 * p + 8) (k2 := 2 + 14 * p + 5) (by omega)
      obtain ⟨l1, l2, l3, l4, l5, l6, l7⟩ := id hL
      obtain ⟨t1, t2, t3, t4, t5, ⟨t, ta, tb, tc⟩, t7, t8, t9⟩ := id hT
      have cpv := cp_v (C := C) (k := 2 + 14 * p + 8) (k2 := 2 + 14 * p + 5) (by omega) t4
      rw [Mb_nI hp]
      generalize hD : f_S_copyFrom C (2 + 14 * p + 8) (2 + 14 * p + 5) = D at c5 c7 cpv
      have tk : D (2 + 14 * p + 8) 2 = nI t := by rw [c5, t4.2.2.2.2.1, ta]
      have yk : Y 75 2 = nI t := by rw [hg.1.2.2.2.2.1, ta]
      unfold f_R_dropThrough m_R_dropThrough_1
      dsimp only
      rw [nI_clamp (show p < 2 ^ 31 by omega)] at okx
      rw [tk, c7 (2 + 14 * p + 11) (by omega) (by omega) (by omega), l3, yk, nI_clamp (by omega), l5]
      have fC (a : Nat) (h1 : a ≠ 2 + 14 * p + 11) (h2 : a ≠ 2 + 14 * p + 8) (h3 : a ≠ 2 + 14 * p + 8 + 1) (h4 : a ≠ 2 + 14 * p + 8 + 2) : u2 D (2 + 14 * p + 11) 0 (nI t) a = C a := by rw [u2_k h1, c7 a h2 h3 h4]
      have fX (a : Nat) (h1 : a ≠ 82) (h2 : a ≠ 83) : u2 (u2 Y 82 p (Y 81 p)) 83 p (nI t) a = Y a := by rw [u2_k h2, u2_k h1]
      refine ⟨okg, okx, rfl, ?_, fun a ha => fC a (by omega) (by omega) (by omega) (by omega), fun a ha => (fX a (by omega) (by omega)).trans (hLX a ha)⟩
      refine Rel_one (p := p) (ln' := ln p) (tt' := tt p) (sk' := t) (ag' := ag p) (sg' := ag p) (tr' := tr p) hc2 hr2 (fun q hq hne a h1 h2 => fC a (by omega) (by omega) (by omega) (by omega)) ?_ ?_ ⟨rP_c hP (fun j h1 h2 => fC _ (by omega) (by omega) (by omega) (by omega)) (by rw [fX 76 (by decide) (by decide)]) (by intro i hi; rw [fX 77 (by decide) (by decide), fX 78 (by decide) (by decide), fX 79 (by decide) (by decide)]; exact ⟨rfl, rfl, rfl⟩), ⟨tc, by omega, u2_s, ?_, u2_s, ?_, ?_⟩, ⟨?_, ?_, ?_⟩, ⟨t1, ?_, Nat.le_refl _, ?_, ?_, ⟨t, ta, Nat.le_refl _, tc⟩, ta, t8, t8⟩⟩ (by omega) (by omega) ?_ ?_ (chs_s hc2 (fun a h1 h2 => fC a (by omega) (by omega) (by omega) (by omega)) (fX 89 (by decide) (by decide)) (fX 90 (by decide) (by decide)) (fX 91 (by decide) (by decide))) (out_c hc2.2.2 (fun a h1 h2 => fC a (by omega) (by omega) (by omega) (by omega)) (by rw [fX 75 (by decide) (by decide)]) (fX 92 (by decide) (by decide)) (fX 93 (by decide) (by decide)))
      · intro q hq hne
        unfold xeq
        rw [fX 76 (by decide) (by decide), fX 77 (by decide) (by decide), fX 78 (by decide) (by decide), fX 79 (by decide) (by decide), fX 80 (by decide) (by decide), fX 85 (by decide) (by decide), fX 86 (by decide) (by decide), fX 87 (by decide) (by decide), fX 88 (by decide) (by decide), fX 94 (by decide) (by decide), u2_j hne, u2_k (a := 83) (by decide)]
        exact xeq_rfl
      · intro q hq hne
        rw [fX 81 (by decide) (by decide), fX 84 (by decide) (by decide), u2_k (a := 82) (by decide), u2_j hne]
        exact ⟨rfl, rfl, rfl⟩
      · rw [u2_j (by decide), c7 _ (by omega) (by omega) (by omega)]; exact l4
      · rw [fX 86 (by decide) (by decide)]; exact l6
      · intro i h1 h2
        rw [fC (2 + 14 * p + 12) (by omega) (by omega) (by omega) (by omega), fC (2 + 14 * p + 13) (by omega) (by omega) (by omega) (by omega), fX 87 (by decide) (by decide), fX 88 (by decide) (by decide)]
        exact l7 i (by omega) h2
      · rw [fC _ (by omega) (by omega) (by omega) (by omega), fX 80 (by decide) (by decide)]; exact hF.1
      · rw [fC _ (by omega) (by omega) (by omega) (by omega), fX 94 (by decide) (by decide)]; exact hF.2.1
      · rw [fC _ (by omega) (by omega) (by omega) (by omega), fX 85 (by decide) (by decide)]; exact hF.2.2
      · intro j hj
        exact stp_x hP.1 (Nat.le_refl _) (fun i _ => by rw [fX 77 (by decide) (by decide), fX 78 (by decide) (by decide), fX 79 (by decide) (by decide)]; exact ⟨rfl, rfl, rfl⟩) (fun i _ => by rw [fX 87 (by decide) (by decide), fX 88 (by decide) (by decide)]; exact ⟨rfl, rfl⟩) (t2 j hj)
      · exact vst_c t4 (fC _ (by omega) (by omega) (by omega) (by omega)) (fC _ (by omega) (by omega) (by omega) (by omega)) (fC _ (by omega) (by omega) (by omega) (by omega))
      · exact vst_c cpv (u2_k (by omega)) (u2_k (by omega)) (u2_k (by omega))
      · refine ⟨?_, ?_⟩
        · rw [fX 81 (by decide) (by decide)]; exact (hr2 p hp).1.1
        · rw [u2_k (by decide), u2_s]; exact (hr2 p hp).1.1
      · unfold rB
        rw [fC _ (by omega) (by omega) (by omega) (by omega), fX 84 (by decide) (by decide)]
        exact (hr2 p hp).2
    · rw [if_pos d1, if_neg (ne1 d2)]
      exact same h okg okx
end SC

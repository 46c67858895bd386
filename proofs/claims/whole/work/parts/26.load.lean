-- THE REFERENCE's load()
theorem gd_trans {X Y Z : Mm} {u v : Nat → Int32} (h : gd X Y u) (h2 : gd Y Z v) : gd X Z v := ⟨h2.1, fun k h1 h3 h4 => (h2.2.1 k h1 h3 h4).trans (h.2.1 k h1 h3 h4), h2.2.2.trans h.2.2⟩
theorem tn0 : (0 : Int32).toNatClampNeg = 0 := by decide
theorem tn1 : (1 : Int32).toNatClampNeg = 1 := by decide
theorem tn2 : (2 : Int32).toNatClampNeg = 2 := by decide
theorem tn3 : (3 : Int32).toNatClampNeg = 3 := by decide
theorem load_0 {X : Mm} {p : Nat} {u : Nat → Int32} (hu : ∀ j, u j = 0) : gd X (m_X_load_11 X (nI p)) u := by
  have e : m_X_load_11 X (nI p) = u2 (u2 (u2 (u2 (u2 (u2 (u2 (u2 (u2 (u2 (u2 X 95 0 0) 95 1 0) 95 2 0) 95 3 0) 96 0 0) 96 1 0) 96 2 0) 75 1 0) 75 2 0) 75 3 0) 75 4 0 := by
    unfold m_X_load_11 m_X_load_10 m_X_load_9 m_X_load_8 m_X_load_7 m_X_load_6 m_X_load_5 m_X_load_4 m_X_load_3 m_X_load_2 m_X_load_1
    rw [tn0, tn1, tn2, tn3]
  rw [e]
  refine ⟨⟨fun j hj => ?_, fun j hj => ?_, ?_, ?_, ?_, ?_⟩, fun k h1 h2 h3 => ?_, ?_⟩
  · rw [hu]
    rcases (show j = 0 ∨ j = 1 ∨ j = 2 ∨ j = 3 by omega) with rfl | rfl | rfl | rfl <;> simp [u2, u1, upd]
  · rw [hu]
    rcases (show j = 0 ∨ j = 1 ∨ j = 2 by omega) with rfl | rfl | rfl <;> simp [u2, u1, upd]
  · rw [hu]; simp [u2, u1, upd]
  · rw [hu]; simp [u2, u1, upd]
  · rw [hu]; simp [u2, u1, upd]
  · rw [hu]; simp [u2, u1, upd]
  · simp [u2, u1, h1, h2, h3]
  · simp [u2, u1, upd]
theorem load_l {X : Mm} {p ln tt ag : Nat} {tr : Nat → Nat → Int32} (hp : p < 3) (hln : ln ≤ 16) (h76 : X 76 p = nI ln) (hop : ∀ i, i < ln → opv p (X 77 (16 * p + i)) (X 78 (16 * p + i)) (X 79 (16 * p + i))) (h86 : X 86 p = nI tt) (htt : tt ≤ 512) (h81 : X 81 p = nI ag) (hag : ag < 2 ^ 30) (hst : ∀ k, k < ag → stp X p ln tt (tr k) (tr (k + 1))) : ∀ (n k : Nat) (Y : Mm), k + n = ag + 1 → k ≤ ag → gd X Y (tr k) → okl_X_load n Y (nI p) (nI k) ∧ gd X (l_X_load n Y (nI p) (nI k)) (tr ag) := by
  intro n
  induction n with
  | zero =>
    intro k Y h1 h2
    omega
  | succ n ih =>
    intro k Y h1 h2 hg
    have r (a : Nat) (ha : a ≠ 75) (hb : a ≠ 95) (hc : a ≠ 96) : Y a = X a := hg.2.1 a ha hb hc
    have hin : vp_in (nI p) 3 := vp_in_nI hp (by decide)
    have e81 : Y 81 (nI p).toNatClampNeg = nI ag := by rw [nI_clamp (by omega), r 81 (by decide) (by decide) (by decide), h81]
    rw [okl_X_load, l_X_load, e81]
    by_cases hk : ag ≤ k
    · have hk' : k = ag := by omega
      subst hk'
      rw [if_pos (nI_le (Nat.le_refl k) (by omega))]
      exact ⟨⟨hin, fun _ => trivial, fun h => absurd (nI_le (Nat.le_refl k) (by omega)) h⟩, hg⟩
    · have hn : ¬ nI ag ≤ nI k := nI_ge (by omega) (by omega)
      rw [if_neg hn]
      obtain ⟨k1, Z, k2, k3⟩ := go1 (X := Y) (u := tr k) (v := tr (k + 1)) hp hln (by rw [r 76 (by decide) (by decide) (by decide)]; exact h76) (fun i hi => by rw [r 77 (by decide) (by decide) (by decide), r 78 (by decide) (by decide) (by decide), r 79 (by decide) (by decide) (by decide)]; exact hop i hi) (by rw [r 86 (by decide) (by decide) (by decide)]; exact h86) htt hg.1 (stp_x hln (Nat.le_refl tt) (fun i _ => by rw [r 77 (by decide) (by decide) (by decide), r 78 (by decide) (by decide) (by decide), r 79 (by decide) (by decide) (by decide)]; exact ⟨rfl, rfl, rfl⟩) (fun i _ => by rw [r 87 (by decide) (by decide) (by decide), r 88 (by decide) (by decide) (by decide)]; exact ⟨rfl, rfl⟩) (hst k (by omega)))
      have hz := ih (k + 1) Z (by omega) (by omega) (gd_trans hg k3)
      rw [k2, nI_1]
      exact ⟨⟨hin, fun h => absurd h hn, fun _ => ⟨k1, hz.1⟩⟩, hz.2⟩
theorem load_s {X : Mm} {p ln tt ag : Nat} {tr : Nat → Nat → Int32} (hp : p < 3) (hln : ln ≤ 16) (h76 : X 76 p = nI ln) (hop : ∀ i, i < ln → opv p (X 77 (16 * p + i)) (X 78 (16 * p + i)) (X 79 (16 * p + i))) (h86 : X 86 p = nI tt) (htt : tt ≤ 512) (h81 : X 81 p = nI ag) (hag : ag < 2 ^ 30) (h0 : ∀ j, tr 0 j = 0) (hst : ∀ k, k < ag → stp X p ln tt (tr k) (tr (k + 1))) : ok_X_load X (nI p) ∧ gd X (f_X_load X (nI p)) (tr ag) := by
  have g0 := load_0 (X := X) (p := p) h0
  have e : (m_X_load_11 X (nI p) 81 (nI p).toNatClampNeg).toNatClampNeg + 1 = ag + 1 := by
    rw [g0.2.1 81 (by decide) (by decide) (by decide), nI_clamp (by omega), h81, nI_clamp (by omega)]
  unfold ok_X_load f_X_load
  rw [e]
  exact load_l hp hln h76 hop h86 htt h81 hag hst (ag + 1) 0 _ (by omega) (by omega) g0
-- the relation does not read what load() writes
theorem gd_xeq {X Z : Mm} {v : Nat → Int32} {q tt : Nat} (h : gd X Z v) : xeq X Z q tt := by
  have r (a : Nat) (ha : a ≠ 75) (hb : a ≠ 95) (hc : a ≠ 96) : Z a = X a := h.2.1 a ha hb hc
  unfold xeq
  rw [r 76 (by decide) (by decide) (by decide), r 77 (by decide) (by decide) (by decide), r 78 (by decide) (by decide) (by decide), r 79 (by decide) (by decide) (by decide), r 80 (by decide) (by decide) (by decide), r 83 (by decide) (by decide) (by decide), r 85 (by decide) (by decide) (by decide), r 86 (by decide) (by decide) (by decide), r 87 (by decide) (by decide) (by decide), r 88 (by decide) (by decide) (by decide), r 94 (by decide) (by decide) (by decide)]
  exact ⟨rfl, rfl, rfl, rfl, rfl, rfl, fun _ _ => ⟨rfl, rfl, rfl⟩, fun _ _ => ⟨rfl, rfl⟩⟩
theorem ceq_rfl {C : Mm} {q : Nat} : ceq C C q := fun _ _ _ => rfl
theorem Core_gd {n b : Nat} {C X Z : Mm} {ln tt sk ag sg : Nat → Nat} {tr : Nat → Nat → Nat → Int32} {dl se : Nat → Nat} {no : Nat} {v : Nat → Int32} (h : Core n b C X ln tt sk ag sg tr dl se no) (hg : gd X Z v) : Core n b C Z ln tt sk ag sg tr dl se no := by
  have r (a : Nat) (ha : a ≠ 75) (hb : a ≠ 95) (hc : a ≠ 96) : Z a = X a := hg.2.1 a ha hb hc
  refine ⟨fun p hp => ⟨rQ_c (h.1 p hp).1 ceq_rfl (gd_xeq hg), (h.1 p hp).2⟩, fun c hc => ⟨rC_c (h.2.1 c hc).1 rfl rfl ?_ ?_ ?_, (h.2.1 c hc).2⟩, rO_c h.2.2 rfl rfl rfl hg.2.2 ?_⟩
  · rw [r 89 (by decide) (by decide) (by decide)]
  · rw [r 90 (by decide) (by decide) (by decide)]
  · rw [r 91 (by decide) (by decide) (by decide)]; exact fun _ _ => rfl
  · rw [r 92 (by decide) (by decide) (by decide), r 93 (by decide) (by decide) (by decide)]; exact fun _ _ => ⟨rfl, rfl⟩
theorem rA_gd {X Z : Mm} {v : Nat → Int32} {p a s : Nat} (h : rA X p a s) (hg : gd X Z v) : rA Z p a s := by
  unfold rA
  rw [hg.2.1 81 (by decide) (by decide) (by decide), hg.2.1 82 (by decide) (by decide) (by decide)]
  exact h
theorem rB_gd {C X Z : Mm} {v : Nat → Int32} {p a : Nat} (h : rB C X p a) (hg : gd X Z v) : rB C Z p a := by
  unfold rB
  rw [hg.2.1 84 (by decide) (by decide) (by decide)]
  exact h
theorem Rel_gd {n : Nat} {C X Z : Mm} {v : Nat → Int32} (h : Rel n C X) (hg : gd X Z v) : Rel n C Z := by
  obtain ⟨ln, tt, sk, ag, sg, tr, dl, se, no, hc, hr⟩ := h
  exact ⟨ln, tt, sk, ag, sg, tr, dl, se, no, Core_gd hc hg, fun p hp => ⟨rA_gd (hr p hp).1 hg, rB_gd (hr p hp).2 hg⟩⟩
/-- load() at a state of the relation -/
theorem load_r {n b : Nat} {C X : Mm} {ln tt sk ag sg : Nat → Nat} {tr : Nat → Nat → Nat → Int32} {dl se : Nat → Nat} {no p : Nat} (h : Core n b C X ln tt sk ag sg tr dl se no) (hn : n ≤ 512) (hb : b < 2 ^ 30) (hp : p < 3) (hA : X 81 p = nI (ag p)) : ok_X_load X (nI p) ∧ gd X (f_X_load X (nI p)) (tr p (ag p)) := by
  obtain ⟨⟨hP, hL, hF, hT⟩, h1, h2⟩ := h.1 p hp
  exact load_s hp hP.1 hP.2.2.1 (fun i hi => (hP.2.2.2 i hi).2.2.2) hL.2.2.2.2.2.1 (by omega) hA (by omega) hT.1 hT.2.1

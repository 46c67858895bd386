-- THE CALLS that load; and what one process changes
section SR
variable {k : Nat} {C X : Mm} {x y : Int32}
theorem nb_1 : vp_nar .boolean 1 = 1 := by decide
theorem nb_0 : vp_nar .boolean 0 = 0 := by decide
/-- up or down, as both see it -/
theorem up_cases {p : Nat} (hp : p < 3) (h : rF C X p) : (C (Mb (nI p)) 0 = 1 ∧ X 80 (nI p).toNatClampNeg = 0) ∨ (C (Mb (nI p)) 0 = 0 ∧ X 80 (nI p).toNatClampNeg = 1) := by
  rw [Mb_nI hp, nI_clamp (by omega)]
  exact h.1
theorem loaded {r : Int32} {L : Mm} {v : Nat → Int32} {okG okX : Prop} (h : Rel k C X) (hg : gd X L v) (g : okG) (x : okX) : okG ∧ okX ∧ ((r, C) : Int32 × Mm).1 = ((r, L) : Int32 × Mm).1 ∧ Rel (k + 1) ((r, C) : Int32 × Mm).2 ((r, L) : Int32 × Mm).2 ∧ (∀ a, 75 ≤ a → ((r, C) : Int32 × Mm).2 a = C a) ∧ (∀ a, a < 75 → ((r, L) : Int32 × Mm).2 a = X a) := ⟨g, x, rfl, Rel_mono (Rel_gd h hg), fun _ _ => rfl, fun a ha => hg.2.1 a (by omega) (by omega) (by omega)⟩
theorem made {r : Int32} {C' X' : Mm} {okG okX : Prop} (g : okG) (x : okX) (h : Rel (k + 1) C' X') (f1 : ∀ a, 75 ≤ a → C' a = C a) (f2 : ∀ a, a < 75 → X' a = X a) : okG ∧ okX ∧ ((r, C') : Int32 × Mm).1 = ((r, X') : Int32 × Mm).1 ∧ Rel (k + 1) ((r, C') : Int32 × Mm).2 ((r, X') : Int32 × Mm).2 ∧ (∀ a, 75 ≤ a → ((r, C') : Int32 × Mm).2 a = C a) ∧ (∀ a, a < 75 → ((r, X') : Int32 × Mm).2 a = X a) := ⟨g, x, rfl, h, f1, f2⟩
theorem sim_register (hk : k < 512) : Sim k (fun C => ok_G_register C x y) (fun X => ok_X_register X x y) (fun C => (f_G_register C x y, C)) (fun X => f_X_register X x y) := by
  intro C X h
  dsimp only
  unfold ok_G_register ok_X_register f_G_register f_X_register
  rcases ip_cases x with ⟨e1, e2⟩ | ⟨p, hp, rfl, e1, e2⟩
  · rw [if_pos e1, if_pos e2]
    exact same h ⟨fun _ => trivial, fun z => absurd e1 z⟩ ⟨fun _ => trivial, fun z => absurd e2 z⟩
  · rw [if_neg (ne1 e1), if_neg (ne1 e2)]
    rcases ir_cases y with ⟨e3, e4⟩ | ⟨j, hj, rfl, e3, e4⟩
    · rw [if_pos e3, if_pos e4]
      exact same h ⟨fun z => absurd z (ne1 e1), fun _ => ⟨fun _ => trivial, fun z => absurd e3 z⟩⟩ ⟨fun z => absurd z (ne1 e2), fun _ => ⟨fun _ => trivial, fun z => absurd e4 z⟩⟩
    · rw [if_neg (ne1 e3), if_neg (ne1 e4)]
      obtain ⟨ln, tt, sk, ag, sg, tr, dl, se, no, hc, hr⟩ := id h
      rcases up_cases hp (hc.1 p hp).1.2.2.1 with ⟨d1, d2⟩ | ⟨d1, d2⟩
      · obtain ⟨okL, hg⟩ := load_r hc (by omega) (by omega) hp (hr p hp).1.1
        rw [if_neg (ne1 d1), if_pos d2]
        have e : C (Mb (nI p) + 5 + 1) (nI j).toNatClampNeg = f_X_load X (nI p) 95 (nI j).toNatClampNeg := by
          rw [Mb_nI hp, nI_clamp (by omega), (hc.1 p hp).1.2.2.2.2.2.2.1.1 j hj, hg.1.1 j hj]
        rw [e]
        exact loaded h hg ⟨fun z => absurd z (ne1 e1), fun _ => ⟨fun z => absurd z (ne1 e3), fun _ => ⟨pin hp, fun z => absurd z (ne1 d1), fun _ => r_in hj rfl⟩⟩⟩ ⟨fun z => absurd z (ne1 e2), fun _ => ⟨fun z => absurd z (ne1 e4), fun _ => ⟨pin hp, fun _ => ⟨okL, r_in hj rfl⟩, fun z => absurd d2 z⟩⟩⟩
      · rw [if_pos d1, if_neg (ne1 d2)]
        exact same h ⟨fun z => absurd z (ne1 e1), fun _ => ⟨fun z => absurd z (ne1 e3), fun _ => ⟨pin hp, fun _ => trivial, fun z => absurd d1 z⟩⟩⟩ ⟨fun z => absurd z (ne1 e2), fun _ => ⟨fun z => absurd z (ne1 e4), fun _ => ⟨pin hp, fun z => absurd z (ne1 d2), fun _ => trivial⟩⟩⟩
theorem sim_sent (hk : k < 512) : Sim k (fun C => ok_G_sent C x y) (fun X => ok_X_sent X x y) (fun C => (f_G_sent C x y, C)) (fun X => f_X_sent X x y) := by
  intro C X h
  dsimp only
  unfold ok_G_sent ok_X_sent f_G_sent f_X_sent
  rcases ic_cases x y with ⟨e1, e2⟩ | ⟨p, q, hp, hq, hpq, rfl, rfl, e1, e2⟩
  · rw [if_pos e1, if_pos e2]
    exact same h ⟨fun _ => trivial, fun z => absurd e1 z⟩ ⟨fun _ => trivial, fun z => absurd e2 z⟩
  · rw [if_neg (ne1 e1), if_neg (ne1 e2)]
    obtain ⟨ln, tt, sk, ag, sg, tr, dl, se, no, hc, hr⟩ := id h
    rcases up_cases hp (hc.1 p hp).1.2.2.1 with ⟨d1, d2⟩ | ⟨d1, d2⟩
    · obtain ⟨okL, hg⟩ := load_r hc (by omega) (by omega) hp (hr p hp).1.1
      rw [if_neg (ne1 d1), if_pos d2]
      have e : C (Mb (nI p) + 5 + 2) (nI q).toNatClampNeg = f_X_load X (nI p) 96 (nI q).toNatClampNeg := by
        rw [Mb_nI hp, nI_clamp (by omega), (hc.1 p hp).1.2.2.2.2.2.2.1.2.1 q hq, hg.1.2.1 q hq]
      rw [e]
      exact loaded h hg ⟨fun z => absurd z (ne1 e1), fun _ => ⟨pin hp, fun z => absurd z (ne1 d1), fun _ => pin hq⟩⟩ ⟨fun z => absurd z (ne1 e2), fun _ => ⟨pin hp, fun _ => ⟨okL, pin hq⟩, fun z => absurd d2 z⟩⟩
    · rw [if_pos d1, if_neg (ne1 d2)]
      exact same h ⟨fun z => absurd z (ne1 e1), fun _ => ⟨pin hp, fun _ => trivial, fun z => absurd d1 z⟩⟩ ⟨fun z => absurd z (ne1 e2), fun _ => ⟨pin hp, fun z => absurd z (ne1 d2), fun _ => trivial⟩⟩
theorem sim_state (hk : k < 512) : Sim k (fun _ => ok_G_state x y) (fun X => ok_X_state X x y) (fun C => (f_G_state C x y, C)) (fun X => f_X_state X x y) := by
  intro C X h
  dsimp only
  unfold ok_G_state ok_X_state f_G_state f_X_state
  rcases ip_cases x with ⟨e1, e2⟩ | ⟨p, hp, rfl, e1, e2⟩
  · rw [if_pos e1, if_pos e2]
    exact same h ⟨fun _ => trivial, fun z => absurd e1 z⟩ ⟨fun _ => trivial, fun z => absurd e2 z⟩
  · rw [if_neg (ne1 e1), if_neg (ne1 e2)]
    by_cases y0 : y < 0
    · rw [if_pos y0, if_pos y0]
      exact same h ⟨fun z => absurd z (ne1 e1), fun _ => ⟨fun _ => trivial, fun z => absurd y0 z⟩⟩ ⟨fun z => absurd z (ne1 e2), fun _ => ⟨fun _ => trivial, fun z => absurd y0 z⟩⟩
    · rw [if_neg y0, if_neg y0]
      by_cases y3 : y ≤ 3
      · rw [if_pos y3, if_pos y3]
        obtain ⟨ln, tt, sk, ag, sg, tr, dl, se, no, hc, hr⟩ := id h
        rcases up_cases hp (hc.1 p hp).1.2.2.1 with ⟨d1, d2⟩ | ⟨d1, d2⟩
        · obtain ⟨okL, hg⟩ := load_r hc (by omega) (by omega) hp (hr p hp).1.1
          rw [if_neg (ne1 d1), if_pos d2]
          obtain ⟨-, -, v1, v2, v3, v4⟩ := (hc.1 p hp).1.2.2.2.2.2.2.1
          obtain ⟨-, -, w1, w2, w3, w4⟩ := hg.1
          have e0 : C (Mb (nI p) + 5) 0 = f_X_load X (nI p) 75 1 := by rw [Mb_nI hp, v1, w1]
          have e1' : C (Mb (nI p) + 5) 1 = f_X_load X (nI p) 75 4 := by rw [Mb_nI hp, v2, w2]
          have e2' : C (Mb (nI p) + 5) 2 = f_X_load X (nI p) 75 2 := by rw [Mb_nI hp, v3, w3]
          have e3' : C (Mb (nI p) + 5) 3 = f_X_load X (nI p) 75 3 := by rw [Mb_nI hp, v4, w4]
          rw [e0, e1', e2', e3']
          have okg : (f_G_isProcess (nI p) = 0 → True) ∧ (¬ f_G_isProcess (nI p) = 0 → (y < 0 → True) ∧ (¬ y < 0 → (y ≤ 3 → vp_in (nI p) 3) ∧ (¬ y ≤ 3 → True))) := ⟨fun _ => trivial, fun _ => ⟨fun _ => trivial, fun _ => ⟨fun _ => pin hp, fun _ => trivial⟩⟩⟩
          have okx : (f_X_isProcess (nI p) = 0 → True) ∧ (¬ f_X_isProcess (nI p) = 0 → (y < 0 → True) ∧ (¬ y < 0 → (y ≤ 3 → vp_in (nI p) 3 ∧ ((X 80 (nI p).toNatClampNeg = 0 → ok_X_load X (nI p)) ∧ (¬ X 80 (nI p).toNatClampNeg = 0 → True))) ∧ (¬ y ≤ 3 → True))) := ⟨fun _ => trivial, fun _ => ⟨fun _ => trivial, fun _ => ⟨fun _ => ⟨pin hp, fun _ => okL, fun _ => trivial⟩, fun _ => trivial⟩⟩⟩
          by_cases a0 : y = 0
          · rw [if_pos a0, if_pos a0]; exact loaded h hg okg okx
          · rw [if_neg a0, if_neg a0]
            by_cases a1 : y = 1
            · rw [if_pos a1, if_pos a1]; exact loaded h hg okg okx
            · rw [if_neg a1, if_neg a1]
              by_cases a2 : y = 2
              · rw [if_pos a2, if_pos a2]; exact loaded h hg okg okx
              · rw [if_neg a2, if_neg a2]; exact loaded h hg okg okx
        · rw [if_pos d1, if_neg (ne1 d2)]
          exact same h ⟨fun z => absurd z (ne1 e1), fun _ => ⟨fun z => absurd z y0, fun _ => ⟨fun _ => pin hp, fun z => absurd y3 z⟩⟩⟩ ⟨fun z => absurd z (ne1 e2), fun _ => ⟨fun z => absurd z y0, fun _ => ⟨fun _ => ⟨pin hp, fun z => absurd z (ne1 d2), fun _ => trivial⟩, fun z => absurd y3 z⟩⟩⟩
      · rw [if_neg y3, if_neg y3]
        exact same h ⟨fun z => absurd z (ne1 e1), fun _ => ⟨fun z => absurd z y0, fun _ => ⟨fun z => absurd z y3, fun _ => trivial⟩⟩⟩ ⟨fun z => absurd z (ne1 e2), fun _ => ⟨fun z => absurd z y0, fun _ => ⟨fun z => absurd z y3, fun _ => trivial⟩⟩⟩
end SR
-- parts of a process, each by itself
theorem rP_c {C C' X X' : Mm} {p ln : Nat} (h : rP C X p ln) (hC : ∀ j, 1 ≤ j → j ≤ 4 → C' (2 + 14 * p + j) = C (2 + 14 * p + j)) (h76 : X' 76 p = X 76 p) (hX : ∀ i, i < 16 → X' 77 (16 * p + i) = X 77 (16 * p + i) ∧ X' 78 (16 * p + i) = X 78 (16 * p + i) ∧ X' 79 (16 * p + i) = X 79 (16 * p + i)) : rP C' X' p ln := by
  obtain ⟨p1, p2, p3, p4⟩ := h
  refine ⟨p1, ?_, ?_, ?_⟩
  · rw [hC 1 (by omega) (by omega)]; exact p2
  · rw [h76]; exact p3
  · intro i hi
    obtain ⟨e1, e2, e3⟩ := hX i (by omega)
    rw [hC 2 (by omega) (by omega), hC 3 (by omega) (by omega), hC 4 (by omega) (by omega), e1, e2, e3]
    exact p4 i hi
theorem rL_c {C C' X X' : Mm} {p tt sk : Nat} (h : rL C X p tt sk) (hC : ∀ j, 11 ≤ j → j ≤ 13 → C' (2 + 14 * p + j) = C (2 + 14 * p + j)) (h83 : X' 83 p = X 83 p) (h86 : X' 86 p = X 86 p) (h87 : X' 87 = X 87) (h88 : X' 88 = X 88) : rL C' X' p tt sk := by
  unfold rL
  rw [hC 11 (by omega) (by omega), hC 12 (by omega) (by omega), hC 13 (by omega) (by omega), h83, h86, h87, h88]
  exact h
theorem rT_c {C C' X X' : Mm} {p ln tt sk ag sg : Nat} {tr : Nat → Nat → Int32} (h : rT C X p ln tt sk ag sg tr) (hln : ln ≤ 16) (hC : ∀ j, 5 ≤ j → j ≤ 10 → C' (2 + 14 * p + j) = C (2 + 14 * p + j)) (hX : ∀ i, i < 16 → X' 77 (16 * p + i) = X 77 (16 * p + i) ∧ X' 78 (16 * p + i) = X 78 (16 * p + i) ∧ X' 79 (16 * p + i) = X 79 (16 * p + i)) (hX2 : ∀ i, i < tt → X' 87 (512 * p + i) = X 87 (512 * p + i) ∧ X' 88 (512 * p + i) = X 88 (512 * p + i)) : rT C' X' p ln tt sk ag sg tr := by
  obtain ⟨t1, t2, t3, t4, t5, t6⟩ := h
  exact ⟨t1, fun k hk => stp_x hln (Nat.le_refl _) (fun i hi => hX i (by omega)) hX2 (t2 k hk), t3, vst_c t4 (hC 5 (by omega) (by omega)) (hC 6 (by omega) (by omega)) (hC 7 (by omega) (by omega)), vst_c t5 (hC 8 (by omega) (by omega)) (hC 9 (by omega) (by omega)) (hC 10 (by omega) (by omega)), t6⟩
theorem Rel_one {k : Nat} {C X C' X' : Mm} {ln tt sk ag sg : Nat → Nat} {tr : Nat → Nat → Nat → Int32} {dl se dl' se' : Nat → Nat} {no no' p ln' tt' sk' ag' sg' : Nat} {tr' : Nat → Nat → Int32} (h : Core k (100 * k) C X ln tt sk ag sg tr dl se no) (hr : ∀ q, q < 3 → rA X q (ag q) (sg q) ∧ rB C X q (ag q)) (hC : ∀ q, q < 3 → q ≠ p → ceq C C' q) (hX : ∀ q, q < 3 → q ≠ p → xeq X X' q (tt q)) (hX' : ∀ q, q < 3 → q ≠ p → X' 81 q = X 81 q ∧ X' 82 q = X 82 q ∧ X' 84 q = X 84 q) (hQ : rQ C' X' p ln' tt' sk' ag' sg' tr') (ht : tt' ≤ k + 1) (ha : ag' ≤ 100 * (k + 1)) (hA : rA X' p ag' sg') (hB : rB C' X' p ag') (hc : ∀ c, c < 9 → rC C' X' c (dl' c) (se' c) ∧ se' c ≤ 100 * (k + 1)) (ho : rO C' X' no') : Rel (k + 1) C' X' := by
  refine ⟨va_up ln p ln', va_up tt p tt', va_up sk p sk', va_up ag p ag', va_up sg p sg', va_up tr p tr', dl', se', no', ⟨fun q hq => ?_, hc, ho⟩, fun q hq => ?_⟩
  · by_cases e : q = p
    · subst e
      rw [va_up_self, va_up_self, va_up_self, va_up_self, va_up_self, va_up_self]
      exact ⟨hQ, ht, ha⟩
    · rw [va_up_ne _ _ e, va_up_ne _ _ e, va_up_ne _ _ e, va_up_ne _ _ e, va_up_ne _ _ e, va_up_ne _ _ e]
      exact ⟨rQ_c (h.1 q hq).1 (hC q hq e) (hX q hq e), by have := (h.1 q hq).2.1; omega, by have := (h.1 q hq).2.2; omega⟩
  · by_cases e : q = p
    · subst e
      rw [va_up_self, va_up_self]
      exact ⟨hA, hB⟩
    · rw [va_up_ne _ _ e, va_up_ne _ _ e]
      obtain ⟨x1, x2, x3⟩ := hX' q hq e
      refine ⟨?_, ?_⟩
      · unfold rA
        rw [x1, x2]
        exact (hr q hq).1
      · unfold rB
        rw [x3, hC q hq e (2 + 14 * q) (by omega) (by omega)]
        exact (hr q hq).2
theorem chs_s {k : Nat} {C X C' X' : Mm} {ln tt sk ag sg : Nat → Nat} {tr : Nat → Nat → Nat → Int32} {dl se : Nat → Nat} {no : Nat} (h : Core k (100 * k) C X ln tt sk ag sg tr dl se no) (hC : ∀ a, 45 ≤ a → a < 72 → C' a = C a) (h89 : X' 89 = X 89) (h90 : X' 90 = X 90) (h91 : X' 91 = X 91) : ∀ c, c < 9 → rC C' X' c (dl c) (se c) ∧ se c ≤ 100 * (k + 1) := by
  intro c hc
  exact ⟨rC_c (h.2.1 c hc).1 (hC _ (by omega) (by omega)) (hC _ (by omega) (by omega)) (by rw [h89]) (by rw [h90]) (by rw [h91]; exact fun _ _ => rfl), by have := (h.2.1 c hc).2; omega⟩
section SS
variable {k : Nat} {C X : Mm} {x y : Int32}
theorem sim_crash : Sim k (fun _ => ok_G_crash x) (fun _ => ok_X_crash x) (fun C => f_G_crash C x) (fun X => f_X_crash X x) := by
  intro C X h
  dsimp only
  unfold ok_G_crash ok_X_crash f_G_crash f_X_crash
  rcases ip_cases x with ⟨e1, e2⟩ | ⟨p, hp, rfl, e1, e2⟩
  · rw [if_pos e1, if_pos e2]
    exact same h ⟨fun _ => trivial, fun z => absurd e1 z⟩ ⟨fun _ => trivial, fun z => absurd e2 z⟩
  · rw [if_neg (ne1 e1), if_neg (ne1 e2)]
    have okg : (f_G_isProcess (nI p) = 0 → True) ∧ (¬ f_G_isProcess (nI p) = 0 → vp_in (nI p) 3) := ⟨fun _ => trivial, fun _ => pin hp⟩
    have okx : (f_X_isProcess (nI p) = 0 → True) ∧ (¬ f_X_isProcess (nI p) = 0 → vp_in (nI p) 3) := ⟨fun _ => trivial, fun _ => pin hp⟩
    obtain ⟨ln, tt, sk, ag, sg, tr, dl, se, no, hc, hr⟩ := id h
    obtain ⟨⟨hP, hL, hF, hT⟩, n1, n2⟩ := hc.1 p hp
    rcases up_cases hp hF with ⟨d1, d2⟩ | ⟨d1, d2⟩
    · rw [if_neg (ne1 d1), if_pos d2]
      have eC : m_G_crash_1 C (nI p) = u2 C (2 + 14 * p) 0 0 := by unfold m_G_crash_1; rw [Mb_nI hp]
      have eX : m_X_crash_1 X (nI p) = u2 X 80 p 1 := by unfold m_X_crash_1; rw [nI_clamp (by omega), nb_1]
      rw [eC, eX]
      refine made okg okx ?_ (fun a ha => u2_k (by omega)) (fun a ha => u2_k (by omega))
      refine Rel_one (p := p) (ln' := ln p) (tt' := tt p) (sk' := sk p) (ag' := ag p) (sg' := sg p) (tr' := tr p) hc hr (fun q hq hne a h1 h2 => u2_k (by omega)) ?_ ?_ ⟨rP_c hP (fun j h1 h2 => u2_k (by omega)) (by rw [u2_k (by decide)]) (by intro i hi; rw [u2_k (by decide), u2_k (by decide), u2_k (by decide)]; exact ⟨rfl, rfl, rfl⟩), rL_c hL (fun j h1 h2 => u2_k (by omega)) (by rw [u2_k (by decide)]) (by rw [u2_k (by decide)]) (u2_k (by decide)) (u2_k (by decide)), ⟨Or.inr ⟨u2_s, u2_s⟩, ?_, ?_⟩, rT_c hT hP.1 (fun j h1 h2 => u2_k (by omega)) (by intro i hi; rw [u2_k (by decide), u2_k (by decide), u2_k (by decide)]; exact ⟨rfl, rfl, rfl⟩) (by intro i hi; rw [u2_k (by decide), u2_k (by decide)]; exact ⟨rfl, rfl⟩)⟩ (by omega) (by omega) ?_ ?_ (chs_s hc (fun a h1 h2 => u2_k (by omega)) (u2_k (by decide)) (u2_k (by decide)) (u2_k (by decide))) (out_c hc.2.2 (fun a h1 h2 => u2_k (by omega)) (by rw [u2_k (by decide)]) (u2_k (by decide)) (u2_k (by decide)))
      · intro q hq hne
        unfold xeq
        rw [u2_j hne, u2_k (a := 76) (by decide), u2_k (a := 77) (by decide), u2_k (a := 78) (by decide), u2_k (a := 79) (by decide), u2_k (a := 83) (by decide), u2_k (a := 85) (by decide), u2_k (a := 86) (by decide), u2_k (a := 87) (by decide), u2_k (a := 88) (by decide), u2_k (a := 94) (by decide)]
        exact xeq_rfl
      · intro q hq hne
        rw [u2_k (a := 81) (by decide), u2_k (a := 82) (by decide), u2_k (a := 84) (by decide)]
        exact ⟨rfl, rfl, rfl⟩
      · rw [u2_j (by decide), u2_k (by decide)]; exact hF.2.1
      · rw [u2_j (by decide), u2_k (by decide)]; exact hF.2.2
      · unfold rA
        rw [u2_k (by decide), u2_k (by decide)]
        exact (hr p hp).1
      · unfold rB
        rw [u2_j (by decide), u2_k (a := 84) (by decide)]
        exact (hr p hp).2
    · rw [if_pos d1, if_neg (ne1 d2)]
      exact same h okg okx
end SS

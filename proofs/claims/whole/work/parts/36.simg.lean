-- step and run
def Mid (k p d : Nat) (C X : Mm) : Prop := ∃ (ln tt sk ag sg : Nat → Nat) (tr : Nat → Nat → Nat → Int32) (dl se : Nat → Nat) (no a0 : Nat), Core k (100 * k + d) C X ln tt sk ag sg tr dl se no ∧ scr X (tr p (ag p)) ∧ (∀ q, q < 3 → q ≠ p → rA X q (ag q) (sg q) ∧ rB C X q (ag q)) ∧ ag p = a0 + d ∧ rA X p a0 (sg p) ∧ (X 84 p = 0 ∨ X 84 p = 1) ∧ (d = 0 → C (2 + 14 * p) 1 = X 84 p ∧ (X 84 p = 0 → a0 = 0)) ∧ (0 < d → C (2 + 14 * p) 1 = 1)
section SG
variable {k p d : Nat} {C X : Mm} {x y : Int32}
theorem mid_0 {v : Nat → Int32} {L : Mm} {ln tt sk ag sg : Nat → Nat} {tr : Nat → Nat → Nat → Int32} {dl se : Nat → Nat} {no : Nat} (hp : p < 3) (h : Core k (100 * k) C X ln tt sk ag sg tr dl se no) (hr : ∀ q, q < 3 → rA X q (ag q) (sg q) ∧ rB C X q (ag q)) (hg : gd X L (tr p (ag p))) : Mid k p 0 C L := by
  have b := rB_gd (hr p hp).2 hg
  exact ⟨ln, tt, sk, ag, sg, tr, dl, se, no, ag p, Core_gd h hg, hg.1, fun q hq _ => ⟨rA_gd (hr q hq).1 hg, rB_gd (hr q hq).2 hg⟩, rfl, rA_gd (hr p hp).1 hg, b.2.1, fun _ => ⟨b.1, b.2.2⟩, fun z => absurd z (by omega)⟩
theorem mid_1 (hk : k < 512) (hd : d < 1000) (hp : p < 3) (h : Mid k p d C X) : ok_G_doNext C (nI p) ∧ ok_X_go X (nI p) 0 ∧ ((∃ r : Int32, ¬ r = 1 ∧ f_G_doNext C (nI p) = (r, C) ∧ f_X_go X (nI p) 0 = (r, X)) ∨ ∃ C' X', f_G_doNext C (nI p) = (1, C') ∧ f_X_go X (nI p) 0 = (1, X') ∧ Mid k p (d + 1) C' X' ∧ (∀ a, 75 ≤ a → C' a = C a) ∧ (∀ a, a < 75 → X' a = X a)) := by
  obtain ⟨ln, tt, sk, ag, sg, tr, dl, se, no, a0, hc, hs, hq, ha, hA, h84, hd0, hd1⟩ := h
  obtain ⟨o1, o2, o3⟩ := step1 hc (by omega) (by omega) hp hs
  refine ⟨o1, o2, ?_⟩
  rcases o3 with e | ⟨C', X', g1, g2, se', no', v, c1, c2, c3, c4, c5, c6, c7⟩
  · exact Or.inl e
  · refine Or.inr ⟨C', X', g1, g2, ⟨ln, tt, sk, _, sg, _, dl, se', no', a0, c1, ?_, ?_, ?_, ?_, ?_, ?_, ?_⟩, c6, c7⟩
    · rw [va_up_self, va_up_self, va_up_self]; exact c2
    · intro q h3 hne
      rw [va_up_ne _ _ hne]
      refine ⟨?_, ?_⟩
      · unfold rA
        rw [c5 81 (Or.inl rfl), c5 82 (Or.inr (Or.inl rfl))]
        exact (hq q h3 hne).1
      · unfold rB
        rw [c5 84 (Or.inr (Or.inr rfl)), c4 q h3 hne]
        exact (hq q h3 hne).2
    · rw [va_up_self, ha]; rfl
    · unfold rA
      rw [c5 81 (Or.inl rfl), c5 82 (Or.inr (Or.inl rfl))]
      exact hA
    · rw [c5 84 (Or.inr (Or.inr rfl))]; exact h84
    · exact fun z => absurd z (by omega)
    · exact fun _ => c3
theorem mid_f {X' : Mm} {w : Int32} (hd : d ≤ 100) (hp : p < 3) (h : Mid k p d C X) (hX : ∀ a, a ≠ 81 → a ≠ 84 → X' a = X a) (h81 : X' 81 = upd (X 81) p (X 81 p + nI d)) (h84 : X' 84 = upd (X 84) p w) (hw : C (2 + 14 * p) 1 = w) (h01 : w = 0 ∨ w = 1) (hw0 : w = 0 → d = 0) : Rel (k + 1) C X' := by
  obtain ⟨ln, tt, sk, ag, sg, tr, dl, se, no, a0, hc, hs, hq, ha, hA, g84, hd0, hd1⟩ := h
  have r (a : Nat) (h1 : a ≠ 81) (h2 : a ≠ 84) : X' a = X a := hX a h1 h2
  refine ⟨ln, tt, sk, ag, sg, tr, dl, se, no, ⟨fun q h3 => ⟨rQ_c (hc.1 q h3).1 ceq_rfl ?_, by have := (hc.1 q h3).2.1; omega, by have := (hc.1 q h3).2.2; omega⟩, fun c h9 => ⟨rC_c (hc.2.1 c h9).1 rfl rfl ?_ ?_ ?_, by have := (hc.2.1 c h9).2; omega⟩, rO_c hc.2.2 rfl rfl rfl ?_ ?_⟩, fun q h3 => ?_⟩
  · unfold xeq
    rw [r 76 (by decide) (by decide), r 77 (by decide) (by decide), r 78 (by decide) (by decide), r 79 (by decide) (by decide), r 80 (by decide) (by decide), r 83 (by decide) (by decide), r 85 (by decide) (by decide), r 86 (by decide) (by decide), r 87 (by decide) (by decide), r 88 (by decide) (by decide), r 94 (by decide) (by decide)]
    exact xeq_rfl
  · rw [r 89 (by decide) (by decide)]
  · rw [r 90 (by decide) (by decide)]
  · rw [r 91 (by decide) (by decide)]; exact fun _ _ => rfl
  · rw [r 75 (by decide) (by decide)]
  · rw [r 92 (by decide) (by decide), r 93 (by decide) (by decide)]; exact fun _ _ => ⟨rfl, rfl⟩
  · by_cases e : q = p
    · subst e
      refine ⟨⟨?_, ?_⟩, ?_, ?_, ?_⟩
      · rw [h81, pk_us, hA.1, nI_add, ha]
      · rw [r 82 (by decide) (by decide)]; exact hA.2
      · rw [h84, pk_us]; exact hw
      · rw [h84, pk_us]; exact h01
      · rw [h84, pk_us]
        intro z
        have d0 := hw0 z
        have := (hd0 d0).2 ((hd0 d0).1.symm.trans (hw.trans z))
        omega
    · unfold rA rB
      rw [h81, h84, pk_un e, pk_un e, r 82 (by decide) (by decide)]
      exact hq q h3 e
theorem mid_l {N : Nat} (hk : k < 512) (hp : p < 3) (hN : N ≤ 100) : ∀ (f d : Nat) (C X : Mm), Mid k p d C X → d ≤ N → N < f + d → ∃ d' C' X', d' ≤ 100 ∧ okl_G_run f C (nI p) (nI N) (nI d) ∧ okl_X_run f X (nI p) (nI N) (nI d) ∧ l_G_run f C (nI p) (nI N) (nI d) = (nI d', C') ∧ l_X_run f X (nI p) (nI N) (nI d) = (nI d', X') ∧ Mid k p d' C' X' ∧ (∀ a, 75 ≤ a → C' a = C a) ∧ (∀ a, a < 75 → X' a = X a) := by
  intro f
  induction f with
  | zero =>
    intro d C X _ h1 h2
    exact absurd h2 (by omega)
  | succ f ih =>
    intro d C X h h1 h2
    by_cases e : d = N
    · subst e
      have le : nI d ≤ nI d := nI_le (Nat.le_refl _) (by omega)
      refine ⟨d, C, X, hN, ?_, ?_, ?_, ?_, h, fun _ _ => rfl, fun _ _ => rfl⟩
      · rw [okl_G_run]; exact ⟨fun _ => trivial, fun z => absurd le z⟩
      · rw [okl_X_run]; exact ⟨fun _ => trivial, fun z => absurd le z⟩
      · rw [l_G_run, if_pos le]
      · rw [l_X_run, if_pos le]
    · have nle : ¬ nI N ≤ nI d := nI_ge (by omega) (by omega)
      obtain ⟨o1, o2, o3⟩ := mid_1 hk (by omega) hp h
      rcases o3 with ⟨r, n1, g1, g2⟩ | ⟨C1, X1, g1, g2, m1, f1, f2⟩
      · refine ⟨d, C, X, by omega, ?_, ?_, ?_, ?_, h, fun _ _ => rfl, fun _ _ => rfl⟩
        · rw [okl_G_run, g1]; exact ⟨fun _ => trivial, fun _ => ⟨o1, fun z => absurd z n1, fun _ => trivial⟩⟩
        · rw [okl_X_run, g2]; exact ⟨fun _ => trivial, fun _ => ⟨o2, fun z => absurd z n1, fun _ => trivial⟩⟩
        · rw [l_G_run, if_neg nle, g1, if_neg n1]
        · rw [l_X_run, if_neg nle, g2, if_neg n1]
      · obtain ⟨d', C', X', b1, b2, b3, b4, b5, b6, b7, b8⟩ := ih (d + 1) C1 X1 m1 (by omega) (by omega)
        refine ⟨d', C', X', b1, ?_, ?_, ?_, ?_, b6, fun a ha => (b7 a ha).trans (f1 a ha), fun a ha => (b8 a ha).trans (f2 a ha)⟩
        · rw [okl_G_run, g1, nI_1]; exact ⟨fun z => absurd z nle, fun _ => ⟨o1, fun _ => b2, fun _ => trivial⟩⟩
        · rw [okl_X_run, g2, nI_1]; exact ⟨fun z => absurd z nle, fun _ => ⟨o2, fun _ => b3, fun _ => trivial⟩⟩
        · rw [l_G_run, if_neg nle, g1, if_pos rfl, nI_1]; exact b4
        · rw [l_X_run, if_neg nle, g2, if_pos rfl, nI_1]; exact b5
theorem sim_step (hk : k < 512) : Sim k (fun C => ok_G_step C x) (fun X => ok_X_step X x) (fun C => f_G_step C x) (fun X => f_X_step X x) := by
  intro C X h
  dsimp only
  unfold ok_G_step ok_X_step f_G_step f_X_step
  rcases ip_cases x with ⟨e1, e2⟩ | ⟨p, hp, rfl, e1, e2⟩
  · rw [if_pos e1, if_pos e2]
    exact same h ⟨fun _ => trivial, fun z => absurd e1 z⟩ ⟨fun _ => trivial, fun z => absurd e2 z⟩
  · rw [if_neg (ne1 e1), if_neg (ne1 e2)]
    obtain ⟨ln, tt, sk, ag, sg, tr, dl, se, no, hc, hr⟩ := id h
    rcases up_cases hp (hc.1 p hp).1.2.2.1 with ⟨d1, d2⟩ | ⟨d1, d2⟩
    · rw [if_neg (ne1 d1), if_pos d2]
      obtain ⟨okL, hg⟩ := load_r hc (by omega) (by omega) hp (hr p hp).1.1
      obtain ⟨o1, o2, o3⟩ := mid_1 hk (by omega) hp (mid_0 (v := tr p (ag p)) hp hc hr hg)
      have okg : (f_G_isProcess (nI p) = 0 → True) ∧ (¬ f_G_isProcess (nI p) = 0 → vp_in (nI p) 3 ∧ ((C (Mb (nI p)) 0 = 0 → True) ∧ (¬ C (Mb (nI p)) 0 = 0 → ok_G_doNext C (nI p)))) := ⟨fun _ => trivial, fun _ => ⟨pin hp, fun _ => trivial, fun _ => o1⟩⟩
      have okx : (f_X_isProcess (nI p) = 0 → True) ∧ (¬ f_X_isProcess (nI p) = 0 → vp_in (nI p) 3 ∧ ((X 80 (nI p).toNatClampNeg = 0 → ok_X_load X (nI p) ∧ ok_X_go (f_X_load X (nI p)) (nI p) 0) ∧ (¬ X 80 (nI p).toNatClampNeg = 0 → True))) := ⟨fun _ => trivial, fun _ => ⟨pin hp, fun _ => ⟨okL, o2⟩, fun _ => trivial⟩⟩
      rcases o3 with ⟨r, n1, g1, g2⟩ | ⟨C1, X1, g1, g2, m1, f1, f2⟩
      · rw [g1, g2, if_neg n1]
        exact loaded h hg okg okx
      · have eX : m_X_step_2 X (nI p) = u2 (u2 X1 81 p (X1 81 p + 1)) 84 p 1 := by
          unfold m_X_step_2 m_X_step_1
          rw [g2, nb_1, nI_clamp (by omega)]
        rw [g1, g2, if_pos rfl, eX]
        refine made okg okx (mid_f (w := 1) (by omega) hp m1 ?_ ?_ ?_ ?_ (Or.inr rfl) (fun z => absurd z (by decide))) f1 ?_
        · intro a h1 h2
          rw [u2_k h2, u2_k h1]
        · rw [u2_k (by decide), u2_r]; rfl
        · rw [u2_r, u2_k (by decide)]
        · obtain ⟨_, _, _, _, _, _, _, _, _, _, _, _, _, _, _, _, _, q⟩ := m1
          exact q (by omega)
        · intro a ha
          rw [u2_k (by omega), u2_k (by omega), f2 a ha]
          exact hg.2.1 a (by omega) (by omega) (by omega)
    · rw [if_pos d1, if_neg (ne1 d2)]
      exact same h ⟨fun z => absurd z (ne1 e1), fun _ => ⟨pin hp, fun _ => trivial, fun z => absurd d1 z⟩⟩ ⟨fun z => absurd z (ne1 e2), fun _ => ⟨pin hp, fun z => absurd z (ne1 d2), fun _ => trivial⟩⟩
theorem nn1 {y : Int32} (h : ¬ y < 1) : ¬ y < 0 := by
  intro z
  apply h
  rw [Int32.lt_iff_toInt_lt] at z ⊢
  have e0 : (0 : Int32).toInt = 0 := by decide
  have e1 : (1 : Int32).toInt = 1 := by decide
  omega
theorem sim_run (hk : k < 512) : Sim k (fun C => ok_G_run C x y) (fun X => ok_X_run X x y) (fun C => f_G_run C x y) (fun X => f_X_run X x y) := by
  intro C X h
  dsimp only
  unfold ok_G_run ok_X_run f_G_run f_X_run
  rcases ip_cases x with ⟨e1, e2⟩ | ⟨p, hp, rfl, e1, e2⟩
  · rw [if_pos e1, if_pos e2]
    exact same h ⟨fun _ => trivial, fun z => absurd e1 z⟩ ⟨fun _ => trivial, fun z => absurd e2 z⟩
  · rw [if_neg (ne1 e1), if_neg (ne1 e2)]
    by_cases y1 : y < 1
    · rw [if_pos y1, if_pos y1]
      exact same h ⟨fun _ => trivial, fun _ => ⟨fun _ => trivial, fun z => absurd y1 z⟩⟩ ⟨fun _ => trivial, fun _ => ⟨fun _ => trivial, fun z => absurd y1 z⟩⟩
    · rw [if_neg y1, if_neg y1]
      by_cases y2 : y ≤ 100
      · rw [if_pos y2, if_pos y2]
        obtain ⟨N, hN, rfl⟩ := nI_of2 (x := y) (M := 100) (n := 100) (by decide) (nn1 y1) y2
        obtain ⟨ln, tt, sk, ag, sg, tr, dl, se, no, hc, hr⟩ := id h
        rcases up_cases hp (hc.1 p hp).1.2.2.1 with ⟨d1, d2⟩ | ⟨d1, d2⟩
        · rw [if_neg (ne1 d1), if_pos d2]
          obtain ⟨okL, hg⟩ := load_r hc (by omega) (by omega) hp (hr p hp).1.1
          obtain ⟨d', C1, X1, hd', o1, o2, g1, g2, m1, f1, f2⟩ := mid_l hk hp hN 101 0 C (f_X_load X (nI p)) (mid_0 (v := tr p (ag p)) hp hc hr hg) (by omega) (by omega)
          rw [nI_0] at o1 o2 g1 g2
          have okg : (f_G_isProcess (nI p) = 0 → True) ∧ (¬ f_G_isProcess (nI p) = 0 → (nI N < 1 → True) ∧ (¬ nI N < 1 → (nI N ≤ 100 → vp_in (nI p) 3 ∧ ((C (Mb (nI p)) 0 = 0 → True) ∧ (¬ C (Mb (nI p)) 0 = 0 → okl_G_run 101 C (nI p) (nI N) 0))) ∧ (¬ nI N ≤ 100 → True))) := ⟨fun _ => trivial, fun _ => ⟨fun _ => trivial, fun _ => ⟨fun _ => ⟨pin hp, fun _ => trivial, fun _ => o1⟩, fun _ => trivial⟩⟩⟩
          have okx : (f_X_isProcess (nI p) = 0 → True) ∧ (¬ f_X_isProcess (nI p) = 0 → (nI N < 1 → True) ∧ (¬ nI N < 1 → (nI N ≤ 100 → vp_in (nI p) 3 ∧ ((X 80 (nI p).toNatClampNeg = 0 → ok_X_load X (nI p) ∧ (okl_X_run 101 (f_X_load X (nI p)) (nI p) (nI N) 0 ∧ vp_in (nI p) 3)) ∧ (¬ X 80 (nI p).toNatClampNeg = 0 → True))) ∧ (¬ nI N ≤ 100 → True))) := ⟨fun _ => trivial, fun _ => ⟨fun _ => trivial, fun _ => ⟨fun _ => ⟨pin hp, fun _ => ⟨okL, o2, pin hp⟩, fun _ => trivial⟩, fun _ => trivial⟩⟩⟩
          have eX1 : m_X_run_1 X (nI p) (nI N) = u2 X1 81 p (X1 81 p + nI d') := by
            unfold m_X_run_1
            rw [g2, nI_clamp (by omega)]
          have eX2 : m_X_run_2 X (nI p) (nI N) = u2 (u2 X1 81 p (X1 81 p + nI d')) 84 p 1 := by
            unfold m_X_run_2
            rw [eX1, nb_1, nI_clamp (by omega)]
          have eX3 : m_X_run_3 X (nI p) (nI N) = u2 (u2 X1 81 p (X1 81 p + nI d')) 84 p 0 := by
            unfold m_X_run_3
            rw [eX1, nb_0, nI_clamp (by omega)]
          have e84 : m_X_run_1 X (nI p) (nI N) 84 (nI p).toNatClampNeg = X1 84 p := by rw [eX1, nI_clamp (by omega), u2_k (by decide)]
          have q := m1
          obtain ⟨_, _, _, _, _, _, _, _, _, _, _, _, _, _, _, q01, q0, q1⟩ := q
          have fin (w : Int32) (hw : C1 (2 + 14 * p) 1 = w) (h01 : w = 0 ∨ w = 1) (hw0 : w = 0 → d' = 0) : Rel (k + 1) C1 (u2 (u2 X1 81 p (X1 81 p + nI d')) 84 p w) := by
            refine mid_f (w := w) hd' hp m1 ?_ ?_ ?_ hw h01 hw0
            · intro a h1 h2
              rw [u2_k h2, u2_k h1]
            · rw [u2_k (by decide), u2_r]
            · rw [u2_r, u2_k (by decide)]
          have fr (w : Int32) (a : Nat) (ha : a < 75) : u2 (u2 X1 81 p (X1 81 p + nI d')) 84 p w a = X a := by
            rw [u2_k (by omega), u2_k (by omega), f2 a ha]
            exact hg.2.1 a (by omega) (by omega) (by omega)
          rw [g1, g2, e84, eX2, eX3]
          by_cases z84 : X1 84 p = 0
          · rw [if_pos z84]
            by_cases dz : d' = 0
            · rw [if_pos (by subst dz; exact (by decide : nI 0 ≤ 0))]
              exact made okg okx (fin 0 ((q0 dz).1.trans z84) (Or.inl rfl) (fun _ => dz)) f1 (fr 0)
            · rw [if_neg (nI_nle (by omega) (by omega))]
              exact made okg okx (fin 1 (q1 (by omega)) (Or.inr rfl) (fun z => absurd z (by decide))) f1 (fr 1)
          · rw [if_neg z84]
            have w1 : C1 (2 + 14 * p) 1 = 1 := by
              by_cases dz : d' = 0
              · exact (q0 dz).1.trans (q01.resolve_left z84)
              · exact q1 (by omega)
            exact made okg okx (fin 1 w1 (Or.inr rfl) (fun z => absurd z (by decide))) f1 (fr 1)
        · rw [if_pos d1, if_neg (ne1 d2)]
          exact same h ⟨fun _ => trivial, fun _ => ⟨fun _ => trivial, fun _ => ⟨fun _ => ⟨pin hp, fun _ => trivial, fun z => absurd d1 z⟩, fun _ => trivial⟩⟩⟩ ⟨fun _ => trivial, fun _ => ⟨fun _ => trivial, fun _ => ⟨fun _ => ⟨pin hp, fun z => absurd z (ne1 d2), fun _ => trivial⟩, fun _ => trivial⟩⟩⟩
      · rw [if_neg y2, if_neg y2]
        exact same h ⟨fun _ => trivial, fun _ => ⟨fun _ => trivial, fun _ => ⟨fun z => absurd z y2, fun _ => trivial⟩⟩⟩ ⟨fun _ => trivial, fun _ => ⟨fun _ => trivial, fun _ => ⟨fun z => absurd z y2, fun _ => trivial⟩⟩⟩
end SG

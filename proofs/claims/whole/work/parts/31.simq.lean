-- THE CALLS, on both sides: those that only tell
theorem Rel_mono {n : Nat} {C X : Mm} (h : Rel n C X) : Rel (n + 1) C X := by
  obtain ⟨ln, tt, sk, ag, sg, tr, dl, se, no, hc, hr⟩ := h
  exact ⟨ln, tt, sk, ag, sg, tr, dl, se, no, ⟨fun p hp => ⟨(hc.1 p hp).1, by have := (hc.1 p hp).2.1; omega, by have := (hc.1 p hp).2.2; omega⟩, fun c h9 => ⟨(hc.2.1 c h9).1, by have := (hc.2.1 c h9).2; omega⟩, hc.2.2⟩, hr⟩
theorem xeq_rfl {X : Mm} {q tt : Nat} : xeq X X q tt := ⟨rfl, rfl, rfl, rfl, rfl, rfl, fun _ _ => ⟨rfl, rfl, rfl⟩, fun _ _ => ⟨rfl, rfl⟩⟩
theorem Rel_X {n : Nat} {C X X' : Mm} (h : Rel n C X) (hx : ∀ k, 75 ≤ k → X' k = X k) : Rel n C X' := by
  obtain ⟨ln, tt, sk, ag, sg, tr, dl, se, no, hc, hr⟩ := h
  refine ⟨ln, tt, sk, ag, sg, tr, dl, se, no, ⟨fun p hp => ⟨rQ_c (hc.1 p hp).1 ceq_rfl ?_, (hc.1 p hp).2⟩, fun c h9 => ⟨rC_c (hc.2.1 c h9).1 rfl rfl ?_ ?_ ?_, (hc.2.1 c h9).2⟩, rO_c hc.2.2 rfl rfl rfl ?_ ?_⟩, fun p hp => ⟨?_, ?_⟩⟩
  · unfold xeq
    rw [hx 76 (by omega), hx 77 (by omega), hx 78 (by omega), hx 79 (by omega), hx 80 (by omega), hx 83 (by omega), hx 85 (by omega), hx 86 (by omega), hx 87 (by omega), hx 88 (by omega), hx 94 (by omega)]
    exact xeq_rfl
  · rw [hx 89 (by omega)]
  · rw [hx 90 (by omega)]
  · rw [hx 91 (by omega)]; exact fun _ _ => rfl
  · rw [hx 75 (by omega)]
  · rw [hx 92 (by omega), hx 93 (by omega)]; exact fun _ _ => ⟨rfl, rfl⟩
  · unfold rA
    rw [hx 81 (by omega), hx 82 (by omega)]
    exact (hr p hp).1
  · unfold rB
    rw [hx 84 (by omega)]
    exact (hr p hp).2
theorem Rel_C {n : Nat} {C C' X : Mm} (h : Rel n C X) (hx : ∀ k, k < 75 → C' k = C k) : Rel n C' X := by
  obtain ⟨ln, tt, sk, ag, sg, tr, dl, se, no, hc, hr⟩ := h
  refine ⟨ln, tt, sk, ag, sg, tr, dl, se, no, ⟨fun p hp => ⟨rQ_c (hc.1 p hp).1 (fun k h1 h2 => hx k (by omega)) xeq_rfl, (hc.1 p hp).2⟩, fun c h9 => ⟨rC_c (hc.2.1 c h9).1 (hx _ (by omega)) (hx _ (by omega)) rfl rfl (fun _ _ => rfl), (hc.2.1 c h9).2⟩, rO_c hc.2.2 (hx _ (by omega)) (hx _ (by omega)) (hx _ (by omega)) rfl (fun _ _ => ⟨rfl, rfl⟩)⟩, fun p hp => ⟨(hr p hp).1, ?_⟩⟩
  unfold rB
  rw [hx _ (by omega)]
  exact (hr p hp).2
def Sim (k : Nat) (okG okX : Mm → Prop) (fG fX : Mm → Int32 × Mm) : Prop := ∀ C X, Rel k C X → okG C ∧ okX X ∧ (fG C).1 = (fX X).1 ∧ Rel (k + 1) (fG C).2 (fX X).2 ∧ (∀ r, 75 ≤ r → (fG C).2 r = C r) ∧ (∀ r, r < 75 → (fX X).2 r = X r)
theorem Sim.use {k : Nat} {okG okX : Mm → Prop} {fG fX : Mm → Int32 × Mm} {J : Mm} (H : Sim k okG okX fG fX) (h : Rel k J J) : okG J ∧ okX (fG J).2 ∧ (fG J).1 = (fX (fG J).2).1 ∧ Rel (k + 1) (fX (fG J).2).2 (fX (fG J).2).2 := by
  obtain ⟨a1, -, -, -, a5, -⟩ := H J J h
  obtain ⟨-, b2, b3, b4, -, b6⟩ := H J (fG J).2 (Rel_X h a5)
  exact ⟨a1, b2, b3, Rel_C b4 b6⟩
section SQ
variable {k : Nat} {C X : Mm} {x y : Int32}
theorem same {r : Int32} {okG okX : Prop} (h : Rel k C X) (g : okG) (x : okX) : okG ∧ okX ∧ ((r, C) : Int32 × Mm).1 = ((r, X) : Int32 × Mm).1 ∧ Rel (k + 1) ((r, C) : Int32 × Mm).2 ((r, X) : Int32 × Mm).2 ∧ (∀ a, 75 ≤ a → ((r, C) : Int32 × Mm).2 a = C a) ∧ (∀ a, a < 75 → ((r, X) : Int32 × Mm).2 a = X a) := ⟨g, x, rfl, Rel_mono h, fun _ _ => rfl, fun _ _ => rfl⟩
theorem pin {p : Nat} (hp : p < 3) : vp_in (nI p) 3 := vp_in_nI hp (by decide)
theorem sim_kept : Sim k (fun _ => ok_G_kept x) (fun _ => ok_X_kept x) (fun C => (f_G_kept C x, C)) (fun X => (f_X_kept X x, X)) := by
  intro C X h
  dsimp only
  unfold ok_G_kept ok_X_kept f_G_kept f_X_kept
  rcases ip_cases x with ⟨e1, e2⟩ | ⟨p, hp, rfl, e1, e2⟩
  · rw [if_pos e1, if_pos e2]
    exact same h ⟨fun _ => trivial, fun z => absurd e1 z⟩ ⟨fun _ => trivial, fun z => absurd e2 z⟩
  · rw [if_neg (ne1 e1), if_neg (ne1 e2)]
    obtain ⟨ln, tt, sk, ag, sg, tr, dl, se, no, hc, hr⟩ := id h
    obtain ⟨l1, l2, l3, l4, l5, l6, l7⟩ := (hc.1 p hp).1.2.1
    have e : f_R_count C (Mb (nI p) + 11) 20 = f_X_kept0 X (nI p) := by
      unfold f_R_count f_X_kept0
      rw [Mb_nI hp, nI_clamp (by omega), l3, l4, l5, l6]
    rw [e]
    exact same h ⟨fun z => absurd z (ne1 e1), fun _ => pin hp⟩ ⟨fun z => absurd z (ne1 e2), fun _ => pin hp⟩
theorem sim_held : Sim k (fun _ => ok_G_held x) (fun _ => ok_X_held x) (fun C => (f_G_held C x, C)) (fun X => (f_X_held X x, X)) := by
  intro C X h
  dsimp only
  unfold ok_G_held ok_X_held f_G_held f_X_held
  rcases ip_cases x with ⟨e1, e2⟩ | ⟨p, hp, rfl, e1, e2⟩
  · rw [if_pos e1, if_pos e2]
    exact same h ⟨fun _ => trivial, fun z => absurd e1 z⟩ ⟨fun _ => trivial, fun z => absurd e2 z⟩
  · rw [if_neg (ne1 e1), if_neg (ne1 e2)]
    obtain ⟨ln, tt, sk, ag, sg, tr, dl, se, no, hc, hr⟩ := id h
    obtain ⟨f1, f2, f3⟩ := (hc.1 p hp).1.2.2.1
    rw [Mb_nI hp, nI_clamp (by omega), f3]
    exact same h ⟨fun z => absurd z (ne1 e1), fun _ => pin hp⟩ ⟨fun z => absurd z (ne1 e2), fun _ => pin hp⟩
theorem sim_waiting : Sim k (fun _ => ok_G_waiting x y) (fun _ => ok_X_waiting x y) (fun C => (f_G_waiting C x y, C)) (fun X => (f_X_waiting X x y, X)) := by
  intro C X h
  dsimp only
  unfold ok_G_waiting ok_X_waiting f_G_waiting f_X_waiting
  rcases ic_cases x y with ⟨e1, e2⟩ | ⟨p, q, hp, hq, hpq, rfl, rfl, e1, e2⟩
  · rw [if_pos e1, if_pos e2]
    exact same h ⟨fun _ => trivial, fun z => absurd e1 z⟩ ⟨fun _ => trivial, fun z => absurd e2 z⟩
  · rw [if_neg (ne1 e1), if_neg (ne1 e2)]
    obtain ⟨ln, tt, sk, ag, sg, tr, dl, se, no, hc, hr⟩ := id h
    obtain ⟨⟨c1, c2, c3, c4, c5, c6, c7⟩, c8⟩ := hc.2.1 (3 * p + q) (by omega)
    have e : f_R_count C (Cb (nI p * 3 + nI q)) 8 = X 89 (3 * nI p + nI q).toNatClampNeg - X 90 (3 * nI p + nI q).toNatClampNeg := by
      unfold f_R_count
      rw [Cb_nI hp hq, ch_nI', nI_clamp (by omega), c3, c4, c5, c6]
    rw [e]
    have hi : vp_in (3 * nI p + nI q) 9 := by rw [ch_nI']; exact vp_in_nI (by omega) (by decide)
    have hj : ok_G_channelBetween (nI p) (nI q) := by unfold ok_G_channelBetween; rw [ch_nI]; exact vp_in_nI (by omega) (by decide)
    exact same h ⟨fun z => absurd z (ne1 e1), fun _ => hj⟩ ⟨fun z => absurd z (ne1 e2), fun _ => hi⟩
theorem sim_outputs : Sim k (fun _ => True) (fun _ => True) (fun C => (f_G_outputs C, C)) (fun X => (f_X_outputs X, X)) := by
  intro C X h
  dsimp only
  obtain ⟨ln, tt, sk, ag, sg, tr, dl, se, no, hc, hr⟩ := id h
  obtain ⟨o1, o2, o3, o4, o5⟩ := hc.2.2
  have e : f_G_outputs C = f_X_outputs X := by
    unfold f_G_outputs f_X_outputs f_R_count
    rw [o2, o3, o4, show (0 : Int32) = nI 0 from rfl, pk_sub (Nat.zero_le _)]
    rfl
  rw [e]
  exact same h trivial trivial
/-- a number among the outputs, as the class sees it and as the reference does -/
theorem out_cases {no : Nat} (x : Int32) (hno : no ≤ 60) (o2 : C 72 0 = 0) (o3 : C 72 1 = nI no) (o4 : X 75 0 = nI no) : (f_R_has C 72 60 (f_G_outputNumber x) = 0 ∧ (x < 0 ∨ (¬ x < 0 ∧ X 75 0 ≤ x))) ∨ ∃ i, i < no ∧ x = nI i ∧ f_R_has C 72 60 (f_G_outputNumber x) = 1 ∧ ¬ x < 0 ∧ ¬ X 75 0 ≤ x := by
  unfold f_R_has f_G_outputNumber
  rw [o2, o3, o4]
  rcases pk_ix x (n := no) (by omega) with hx | hx | ⟨i, hi, rfl⟩
  · refine Or.inl ⟨?_, Or.inl hx⟩
    have h1 : x.toInt < 0 := by simpa using Int32.lt_iff_toInt_lt.mp hx
    have h2 : -2147483648 ≤ x.toInt := by have := Int32.le_toInt x; simpa using this
    have h3 : (x + 1).toInt = x.toInt + 1 := by
      rw [Int32.toInt_add]
      show (x.toInt + 1).bmod (2 ^ 32) = x.toInt + 1
      rw [Int.bmod_eq_of_le (by omega) (by omega)]
    rw [if_pos (Int32.le_iff_toInt_le.mpr (by rw [h3]; show x.toInt + 1 ≤ 0; omega))]
  · by_cases h0 : x < 0
    · have hp : ¬ nI no ≤ x := fun z => by
        have a1 : (nI no).toInt ≤ x.toInt := Int32.le_iff_toInt_le.mp z
        have a2 : x.toInt < 0 := by simpa using Int32.lt_iff_toInt_lt.mp h0
        rw [nI_toInt (by omega)] at a1
        omega
      exact absurd hx hp
    · refine Or.inl ⟨?_, Or.inr ⟨h0, hx⟩⟩
      obtain ⟨j, hj, rfl⟩ := nI_of h0
      have hnj : no ≤ j := (nI_leI (by omega) hj).mp hx
      by_cases hm : j + 1 < 2 ^ 31
      · rw [nI_1, if_neg (nI_nle (by omega) hm), if_pos (nI_lt (by omega) hm)]
      · have e : j = 2 ^ 31 - 1 := by omega
        subst e
        rw [if_pos (by decide)]
  · refine Or.inr ⟨i, hi, rfl, ?_, nI_pos (by omega), nI_ge hi (by omega)⟩
    rw [nI_1, if_neg (nI_nle (by omega) (by omega)), if_neg (nI_nlt (by omega) (by omega))]
theorem sim_author : Sim k (fun C => ok_G_author C x) (fun X => ok_X_author X x) (fun C => (f_G_author C x, C)) (fun X => (f_X_author X x, X)) := by
  intro C X h
  obtain ⟨ln, tt, sk, ag, sg, tr, dl, se, no, hc, hr⟩ := id h
  obtain ⟨o1, o2, o3, o4, o5⟩ := hc.2.2
  dsimp only
  unfold ok_G_author ok_X_author f_G_author f_X_author
  rcases out_cases (C := C) (X := X) x o1 o2 o3 o4 with ⟨e1, e2⟩ | ⟨i, hi, rfl, e1, e2, e3⟩
  · have e3 : (if x < 0 then (-1 : Int32) else if X 75 0 ≤ x then -1 else X 92 x.toNatClampNeg) = -1 := by
      rcases e2 with e2 | ⟨e2, e3⟩
      · rw [if_pos e2]
      · rw [if_neg e2, if_pos e3]
    rw [if_pos e1, e3]
    refine same h ⟨fun _ => trivial, fun z => absurd e1 z⟩ ?_
    rcases e2 with e2 | ⟨e2, e3⟩
    · exact ⟨fun _ => trivial, fun z => absurd e2 z⟩
    · exact ⟨fun _ => trivial, fun _ => ⟨fun _ => trivial, fun z => absurd e3 z⟩⟩
  · have ee : f_R_originAt C 72 60 (f_G_outputNumber (nI i)) = X 92 (nI i).toNatClampNeg := by
      unfold f_R_originAt f_G_outputNumber
      rw [nI_1, slot_tn (by omega) (by decide) (by decide), nI_clamp (by omega)]
      exact (o5 i hi).2
    rw [if_neg (ne1 e1), if_neg e2, if_neg e3, ee]
    exact same h ⟨fun z => absurd z (ne1 e1), fun _ => by unfold ok_R_originAt f_G_outputNumber; rw [nI_1]; exact oks_nI (by omega) (by decide) (by decide)⟩ ⟨fun z => absurd z e2, fun _ => ⟨fun z => absurd z e3, fun _ => vp_in_nI (by omega) (by decide)⟩⟩
theorem sim_output : Sim k (fun C => ok_G_output C x) (fun X => ok_X_output X x) (fun C => (f_G_output C x, C)) (fun X => (f_X_output X x, X)) := by
  intro C X h
  obtain ⟨ln, tt, sk, ag, sg, tr, dl, se, no, hc, hr⟩ := id h
  obtain ⟨o1, o2, o3, o4, o5⟩ := hc.2.2
  dsimp only
  unfold ok_G_output ok_X_output f_G_output f_X_output
  rcases out_cases (C := C) (X := X) x o1 o2 o3 o4 with ⟨e1, e2⟩ | ⟨i, hi, rfl, e1, e2, e3⟩
  · have e3 : (if x < 0 then (0 : Int32) else if X 75 0 ≤ x then 0 else X 93 x.toNatClampNeg) = 0 := by
      rcases e2 with e2 | ⟨e2, e3⟩
      · rw [if_pos e2]
      · rw [if_neg e2, if_pos e3]
    rw [if_pos e1, e3]
    refine same h ⟨fun _ => trivial, fun z => absurd e1 z⟩ ?_
    rcases e2 with e2 | ⟨e2, e3⟩
    · exact ⟨fun _ => trivial, fun z => absurd e2 z⟩
    · exact ⟨fun _ => trivial, fun _ => ⟨fun _ => trivial, fun z => absurd e3 z⟩⟩
  · have ee : f_R_valueAt C 72 60 (f_G_outputNumber (nI i)) = X 93 (nI i).toNatClampNeg := by
      unfold f_R_valueAt f_G_outputNumber
      rw [nI_1, slot_tn (by omega) (by decide) (by decide), nI_clamp (by omega)]
      exact (o5 i hi).1
    rw [if_neg (ne1 e1), if_neg e2, if_neg e3, ee]
    exact same h ⟨fun z => absurd z (ne1 e1), fun _ => by unfold ok_R_valueAt f_G_outputNumber; rw [nI_1]; exact oks_nI (by omega) (by decide) (by decide)⟩ ⟨fun z => absurd z e2, fun _ => ⟨fun z => absurd z e3, fun _ => vp_in_nI (by omega) (by decide)⟩⟩
theorem sim_source (hk : k ≤ 512) : Sim k (fun C => ok_G_source C x y) (fun X => ok_X_source X x y) (fun C => (f_G_source C x y, C)) (fun X => (f_X_source X x y, X)) := by
  intro C X h
  dsimp only
  unfold ok_G_source ok_X_source f_G_source f_X_source
  rcases ip_cases x with ⟨e1, e2⟩ | ⟨p, hp, rfl, e1, e2⟩
  · rw [if_pos e1, if_pos e2]
    exact same h ⟨fun _ => trivial, fun z => absurd e1 z⟩ ⟨fun _ => trivial, fun z => absurd e2 z⟩
  · rw [if_neg (ne1 e1), if_neg (ne1 e2)]
    obtain ⟨ln, tt, sk, ag, sg, tr, dl, se, no, hc, hr⟩ := id h
    obtain ⟨l1, l2, l3, l4, l5, l6, l7⟩ := (hc.1 p hp).1.2.1
    have hn := (hc.1 p hp).2.1
    have hcl : (nI p).toNatClampNeg = p := nI_clamp (by omega)
    have eh : f_R_has C (Mb (nI p) + 11) 20 y = if y ≤ nI (sk p) then 0 else (if nI (tt p) < y then 0 else 1) := by
      unfold f_R_has
      rw [Mb_nI hp, l3, l4]
    rw [eh, hcl, l5, l6]
    by_cases a : y ≤ nI (sk p)
    · rw [if_pos a, if_pos rfl, if_pos a]
      exact same h ⟨fun z => absurd z (ne1 e1), fun _ => ⟨pin hp, fun _ => trivial, fun z => absurd rfl z⟩⟩ ⟨fun z => absurd z (ne1 e2), fun _ => ⟨pin hp, fun _ => trivial, fun z => absurd a z⟩⟩
    · by_cases b : nI (tt p) < y
      · rw [if_neg a, if_pos b, if_pos rfl, if_neg a, if_pos b]
        exact same h ⟨fun z => absurd z (ne1 e1), fun _ => ⟨pin hp, fun _ => trivial, fun z => absurd rfl z⟩⟩ ⟨fun z => absurd z (ne1 e2), fun _ => ⟨pin hp, fun z => absurd z a, fun _ => ⟨fun _ => trivial, fun z => absurd b z⟩⟩⟩
      · have h1 : ¬ (1 : Int32) = 0 := by decide
        rw [if_neg a, if_neg b, if_neg h1, if_neg a, if_neg b]
        have hy0 : ¬ y < 0 := fun z => a (Int32.le_iff_toInt_le.mpr (by
          have a2 : y.toInt < 0 := by simpa using Int32.lt_iff_toInt_lt.mp z
          rw [nI_toInt (by omega)]
          omega))
        obtain ⟨j, hj, rfl⟩ := nI_of hy0
        have j1 : sk p < j := by
          rcases Nat.lt_or_ge (sk p) j with z | z
          · exact z
          · exact absurd (nI_le z (by omega)) a
        have j2 : j ≤ tt p := by
          rcases Nat.lt_or_ge (tt p) j with z | z
          · exact absurd (nI_lt z hj) b
          · exact z
        have e5 : ((512 * nI p) + nI j) - 1 = nI (512 * p + (j - 1)) := by
          rw [show (512 : Int32) = nI 512 from rfl, pk_mul, nI_add, show (1 : Int32) = nI 1 from rfl, pk_sub (by omega)]
          congr 1
          omega
        have ee : f_R_originAt C (Mb (nI p) + 11) 20 (nI j) = X 88 (((512 * nI p) + nI j) - 1).toNatClampNeg := by
          unfold f_R_originAt
          rw [Mb_nI hp, slot_tn (by omega) (by decide) (by decide), e5, nI_clamp (by omega)]
          have := (l7 (j - 1) (by omega) (by omega)).2
          rw [show j - 1 + 1 = j by omega] at this
          exact this
        rw [ee]
        exact same h ⟨fun z => absurd z (ne1 e1), fun _ => ⟨pin hp, fun z => absurd z h1, fun _ => oks_nI (by omega) (by decide) (by decide)⟩⟩ ⟨fun z => absurd z (ne1 e2), fun _ => ⟨pin hp, fun z => absurd z a, fun _ => ⟨fun z => absurd z b, fun _ => by rw [e5]; exact vp_in_nI (by omega) (by decide)⟩⟩⟩
end SQ

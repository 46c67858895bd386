section THREE
variable {n b : Nat} {C X : Mm} {ln tt sk ag sg : Nat → Nat} {tr : Nat → Nat → Nat → Int32} {dl se : Nat → Nat} {no p i x y : Nat}
theorem did_put {C1 P : Mm} {no' : Nat} (h : Core n b C X ln tt sk ag sg tr dl se no) (hn : n ≤ 512) (hp : p < 3) (hs : scr X (tr p (ag p))) (hi : i < ln p) (hu : tr p (ag p) 7 = nI i) (e77 : X 77 (16 * p + i) = 7) (hC1 : ∀ k, k ≠ 2 + 14 * p → k ≠ 2 + 14 * p + 5 → (k < 72 ∨ 75 ≤ k) → C1 k = C k) (hM0 : C1 (2 + 14 * p) 0 = C (2 + 14 * p) 0) (hM2 : C1 (2 + 14 * p) 2 = P 94 p) (hM3 : C1 (2 + 14 * p) 3 = P 85 p) (hrow : C1 (2 + 14 * p + 5) = upd (C (2 + 14 * p + 5)) 3 (C (2 + 14 * p + 5) 3 + 1)) (hP : ∀ k, k ≠ 75 → k ≠ 85 → k ≠ 92 → k ≠ 93 → k ≠ 94 → P k = X k) (hP5 : ∀ j, j ≠ 0 → P 75 j = X 75 j) (h85 : ∀ q, q ≠ p → P 85 q = X 85 q ∧ P 94 q = X 94 q) (ho : rO C1 P no') : Did n b C X (dfin C1 (2 + 14 * p) (C (2 + 14 * p + 5) 0 + 1)) (u2 (u2 (u2 P 75 3 (P 75 3 + 1)) 75 1 (X 75 1 + 1)) 75 4 ((u2 (u2 P 75 3 (P 75 3 + 1)) 75 1 (X 75 1 + 1)) 75 4 + 1)) ln tt sk ag sg tr dl p := by
  obtain ⟨⟨⟨p1, p2, p3, p4⟩, ⟨l1, l2, l3, l4, l5, l6, l7⟩, _, ⟨t1, t2, t3, t4, t5, t6, t7, t8⟩⟩, n1, n2⟩ := h.1 p hp
  obtain ⟨q2, q3, q4, _⟩ := p4 i hi
  have h75 : X 75 1 = nI i := hs.2.2.1.trans hu
  have h7 : C (2 + 14 * p + 5) 0 = nI i := t4.2.2.1.trans hu
  have hin : vp_in (nI p) 3 := vp_in_nI hp (by decide)
  have stC := st_7 (a := X 78 (16 * p + i)) (b := X 79 (16 * p + i)) (val := 0) (org := 0) (vst_iff.mp t4)
  have stX := st_7 (a := X 78 (16 * p + i)) (b := X 79 (16 * p + i)) (val := 0) (org := 0) (scr_iff.mp hs)
  have z (k : Nat) (h1 : k ≠ 75) : (u2 (u2 (u2 P 75 3 (P 75 3 + 1)) 75 1 (X 75 1 + 1)) 75 4 ((u2 (u2 P 75 3 (P 75 3 + 1)) 75 1 (X 75 1 + 1)) 75 4 + 1)) k = P k := by rw [fin_k h1, u2_k h1]
  have z0 : (u2 (u2 (u2 P 75 3 (P 75 3 + 1)) 75 1 (X 75 1 + 1)) 75 4 ((u2 (u2 P 75 3 (P 75 3 + 1)) 75 1 (X 75 1 + 1)) 75 4 + 1)) 75 0 = P 75 0 := by rw [fin_0, u2_j (by decide)]
  have hv : vst (dfin C1 (2 + 14 * p) (C (2 + 14 * p + 5) 0 + 1)) (2 + 14 * p + 5) (nxt 7 (X 78 (16 * p + i)) (X 79 (16 * p + i)) 0 0 (tr p (ag p))) := by
    refine dfin_v ?_
    rw [hrow, hC1 (2 + 14 * p + 5 + 1) (by omega) (by omega) (by omega), hC1 (2 + 14 * p + 5 + 2) (by omega) (by omega) (by omega), pk_un (j := 1) (by decide), pk_un (j := 2) (by decide), pk_us]
    exact stC
  have hsx : scr (u2 (u2 (u2 P 75 3 (P 75 3 + 1)) 75 1 (X 75 1 + 1)) 75 4 ((u2 (u2 P 75 3 (P 75 3 + 1)) 75 1 (X 75 1 + 1)) 75 4 + 1)) (nxt 7 (X 78 (16 * p + i)) (X 79 (16 * p + i)) 0 0 (tr p (ag p))) := by
    refine fin_scr ?_
    rw [u2_k (a := 95) (by decide), u2_k (a := 96) (by decide), u2_j (b := 4) (by decide), u2_j (b := 2) (by decide), u2_s, hP 95 (by decide) (by decide) (by decide) (by decide) (by decide), hP 96 (by decide) (by decide) (by decide) (by decide) (by decide), hP5 4 (by decide), hP5 2 (by decide), hP5 3 (by decide)]
    exact stX
  refine ⟨se, no', nxt 7 (X 78 (16 * p + i)) (X 79 (16 * p + i)) 0 0 (tr p (ag p)), push h hp ?_ ?_ ?_ ?_ ?_ ?_ ?_ hv ?_ ?_ (chs_c h ?_ ?_ ?_ ?_) (rO_c ho (dfin_k (by omega) (by omega)) (dfin_k (by omega) (by omega)) (dfin_k (by omega) (by omega)) z0 ?_), hsx, dfin_1, ?_, ?_, ?_, ?_⟩
  · intro k h1 h2 h3 h4 h5
    rw [dfin_k h2 h3, hC1 k h2 h3 (by omega)]
  · rw [dfin_m (by decide), hM0]
  · intro k hk
    rw [z k (by omega), hP k (by omega) (by omega) (by omega) (by omega) (by omega)]
  · intro q hq
    rw [z 85 (by decide), z 94 (by decide)]
    exact h85 q hq
  · rw [dfin_m (by decide), z 94 (by decide)]; exact hM2
  · rw [dfin_m (by decide), z 85 (by decide)]; exact hM3
  · exact ⟨i, hi, hu, 0, fun h6 => absurd (e77.symm.trans h6) (by decide), fun j hj => by rw [e77]; exact congrFun (nxt_org (by decide)) j⟩
  · obtain ⟨t, a1, a2⟩ := t6
    exact ⟨t, stC.2.2.2.2.1.symm.trans (t4.2.2.2.2.1.trans a1), a2⟩
  · exact ⟨i + 1, by omega, stC.2.2.1.symm.trans (by rw [h7, nI_1])⟩
  · intro k h1 h2
    rw [dfin_k (by omega) (by omega), hC1 k (by omega) (by omega) (by omega)]
  · rw [z 89 (by decide), hP 89 (by decide) (by decide) (by decide) (by decide) (by decide)]
  · rw [z 90 (by decide), hP 90 (by decide) (by decide) (by decide) (by decide) (by decide)]
  · rw [z 91 (by decide), hP 91 (by decide) (by decide) (by decide) (by decide) (by decide)]
  · rw [z 92 (by decide), z 93 (by decide)]; exact fun _ _ => ⟨rfl, rfl⟩
  · intro q hq hne
    rw [dfin_k (by omega) (by omega), hC1 _ (by omega) (by omega) (by omega)]
  · intro k hk
    rw [z k (by omega), hP k (by omega) (by omega) (by omega) (by omega) (by omega)]
  · intro k hk
    rw [dfin_k (by omega) (by omega), hC1 k (by omega) (by omega) (by omega)]
  · intro k hk
    rw [z k (by omega), hP k (by omega) (by omega) (by omega) (by omega) (by omega)]
theorem one_7 (h : Core n b C X ln tt sk ag sg tr dl se no) (hn : n ≤ 512) (hp : p < 3) (hs : scr X (tr p (ag p))) (hi : i < ln p) (hu : tr p (ag p) 7 = nI i) (e77 : X 77 (16 * p + i) = 7) (hx : x < 4) (ha : X 78 (16 * p + i) = nI x) : ok_G_doNext C (nI p) ∧ ok_X_go X (nI p) 0 ∧ ((f_G_doNext C (nI p) = (0, C) ∧ f_X_go X (nI p) 0 = (0, X)) ∨ ∃ C' X', f_G_doNext C (nI p) = (1, C') ∧ f_X_go X (nI p) 0 = (1, X') ∧ Did n b C X C' X' ln tt sk ag sg tr dl p) := by
  obtain ⟨⟨⟨p1, p2, p3, p4⟩, ⟨l1, l2, l3, l4, l5, l6, l7⟩, _, ⟨t1, t2, t3, t4, t5, t6, t7, t8⟩⟩, n1, n2⟩ := h.1 p hp
  obtain ⟨q2, q3, q4, _⟩ := p4 i hi
  have h75 : X 75 1 = nI i := hs.2.2.1.trans hu
  have h7 : C (2 + 14 * p + 5) 0 = nI i := t4.2.2.1.trans hu
  have hin : vp_in (nI p) 3 := vp_in_nI hp (by decide)
  obtain ⟨o1, o2, o3, o4, o5⟩ := h.2.2
  obtain ⟨_, f2, f3⟩ := (h.1 p hp).1.2.2.1
  have hput : C (2 + 14 * p + 5) 3 = X 75 3 := t4.2.2.2.2.2.trans hs.2.2.2.2.2.symm
  have hreg : C (2 + 14 * p + 5 + 1) x = X 95 x := (t4.1 x hx).trans (hs.1 x hx).symm
  have hpt : (nI p).toNatClampNeg = p := nI_clamp (by omega)
  have o2' : C 72 0 = nI 0 := o2
  have hfull := fullR (n := 60) o2' o3 (Nat.zero_le _) (by omega) (by decide)
  obtain ⟨ap1, ap2⟩ := ap (n := 60) (v := C (2 + 14 * p + 5 + 1) x) (o := nI p) o3 (by omega) (by decide) (by decide)
  have e60 : (X 75 0 = 60) ↔ no = 60 := by
    rw [o4, show (60 : Int32) = nI 60 from rfl]
    exact nI_eq (by omega) (by omega)
  have hno : (X 75 0).toNatClampNeg = no := by rw [o4, nI_clamp (by omega)]
  have okf : ok_G_perform C (nI p) 7 (X 78 (16 * p + i)) (X 79 (16 * p + i)) := by
    refine ⟨hin, ⟨fun h => absurd h (by decide), fun _ => ⟨fun h => absurd h (by decide), fun _ => ⟨fun h => absurd h (by decide), fun _ => ⟨fun h => absurd h (by decide), fun _ => ⟨fun h => absurd h (by decide), fun _ => ⟨fun h => absurd h (by decide), fun _ => ⟨fun h => absurd h (by decide), fun _ => ⟨fun _ => ?_, fun h => absurd rfl h⟩⟩⟩⟩⟩⟩⟩⟩⟩
    refine ⟨r_in hx ha, ?_⟩
    rw [Mb_nI hp, show (X 78 (16 * p + i)).toNatClampNeg = x from t_of (by omega) ha]
    unfold ok_G_tryPut
    rw [Mb_nI hp]
    exact ⟨hin, fun _ => ⟨fun _ => ap1, fun _ => trivial⟩, fun _ => trivial⟩
  have m1 : m_X_puts_1 X (nI p) (X 95 x) = u2 X 92 no (nI p) := by
    unfold m_X_puts_1
    rw [hno]
  have okP : ok_X_puts X (nI p) (X 95 x) := by
    unfold ok_X_puts
    rw [m1, u2_k (a := 75) (by decide)]
    refine ⟨hin, fun _ => ⟨fun _ => trivial, fun h60 => ?_⟩, fun _ => trivial⟩
    have hlt : no < 60 := by
      rcases Nat.lt_or_ge no 60 with a | a
      · exact a
      · exact absurd (e60.mpr (by omega)) h60
    have : vp_in (X 75 0) 60 := by rw [o4]; exact vp_in_nI hlt (by decide)
    exact ⟨this, this⟩
  have okg : ok_X_go X (nI p) 0 := by
    refine ⟨hin, fun _ => ⟨ix_in hp (by omega) h75, ?_⟩, fun h => absurd (go_lt hp hi p1 h75 p3) h⟩
    rw [ix hp (by omega) h75, e77, show (X 78 (16 * p + i)).toNatClampNeg = x from t_of (by omega) ha]
    exact ⟨fun h => absurd h (by decide), fun _ => ⟨fun h => absurd h (by decide), fun _ => ⟨fun h => absurd h (by decide), fun _ => ⟨fun h => absurd h (by decide), fun _ => ⟨fun h => absurd h (by decide), fun _ => ⟨fun h => absurd h (by decide), fun _ => ⟨fun h => absurd h (by decide), fun _ => ⟨fun _ => ⟨r_in hx ha, okP⟩, fun h => absurd rfl h⟩⟩⟩⟩⟩⟩⟩⟩
  obtain ⟨d1, d2, d3⟩ := dn_go hp hi p1 p2 h7 (q2.trans e77) q3 q4 (okpa_s (by decide)) okf
  have hpf : f_G_perform C (nI p) 7 (X 78 (16 * p + i)) (X 79 (16 * p + i)) = f_G_tryPut C (nI p) (C (2 + 14 * p + 5 + 1) x) := by
    rw [f_G_perform, if_neg (show ¬ (7 : Int32) = 0 by decide), if_neg (show ¬ (7 : Int32) = 1 by decide), if_neg (show ¬ (7 : Int32) = 2 by decide), if_neg (show ¬ (7 : Int32) = 3 by decide), if_neg (show ¬ (7 : Int32) = 4 by decide), if_neg (show ¬ (7 : Int32) = 5 by decide), if_neg (show ¬ (7 : Int32) = 6 by decide), if_pos (show (7 : Int32) = 7 from rfl), Mb_nI hp, show (X 78 (16 * p + i)).toNatClampNeg = x from t_of (by omega) ha]
  rw [hpf] at d2 d3
  rw [pa_s (by decide) (by decide)] at d3
  have hgo : f_X_go X (nI p) 0 = if (f_X_puts X (nI p) (X 95 x)).1 = 0 then (0, (f_X_puts X (nI p) (X 95 x)).2) else (1, m_X_go_32 X (nI p) 0) := by
    rw [f_X_go, if_pos (go_lt hp hi p1 h75 p3), ix hp (by omega) h75, e77, if_neg (show ¬ (7 : Int32) = 0 by decide), if_neg (show ¬ (7 : Int32) = 1 by decide), if_neg (show ¬ (7 : Int32) = 2 by decide), if_neg (show ¬ (7 : Int32) = 3 by decide), if_neg (show ¬ (7 : Int32) = 4 by decide), if_neg (show ¬ (7 : Int32) = 5 by decide), if_neg (show ¬ (7 : Int32) = 6 by decide), if_pos (show (0 : Int32) = 0 from rfl), show (X 78 (16 * p + i)).toNatClampNeg = x from t_of (by omega) ha]
  have hm32 : m_X_go_32 X (nI p) 0 = (fun P : Mm => (u2 (u2 (u2 P 75 3 (P 75 3 + 1)) 75 1 (X 75 1 + 1)) 75 4 ((u2 (u2 P 75 3 (P 75 3 + 1)) 75 1 (X 75 1 + 1)) 75 4 + 1))) (f_X_puts X (nI p) (X 95 x)).2 := by
    unfold m_X_go_32 m_X_go_31 m_X_go_30
    rw [ix hp (by omega) h75, show (X 78 (16 * p + i)).toNatClampNeg = x from t_of (by omega) ha]
  rw [hm32] at hgo
  have hcp : f_G_tryPut C (nI p) (C (2 + 14 * p + 5 + 1) x) = if C (2 + 14 * p) 2 ≤ C (2 + 14 * p + 5) 3 then (if f_R_isFull C 72 60 = 0 then (1, m_G_tryPut_2 C (nI p) (C (2 + 14 * p + 5 + 1) x)) else (0, C)) else (1, m_G_tryPut_4 C (nI p) (C (2 + 14 * p + 5 + 1) x)) := by
    unfold f_G_tryPut
    rw [Mb_nI hp]
  have hxp : f_X_puts X (nI p) (X 95 x) = if X 94 p ≤ X 75 3 then (if X 75 0 = 60 then (0, X) else (1, m_X_puts_4 X (nI p) (X 95 x))) else (1, m_X_puts_5 X (nI p) (X 95 x)) := by
    unfold f_X_puts
    rw [hpt]
  rw [f2, hput] at hcp
  by_cases hle : X 94 p ≤ X 75 3
  · rw [if_pos hle] at hcp hxp
    by_cases hfu : no = 60
    · rw [if_neg (by rw [hfull, if_neg (by omega)]; decide)] at hcp
      rw [if_pos (e60.mpr hfu)] at hxp
      rw [hcp] at d2
      rw [hxp, if_pos rfl] at hgo
      exact ⟨d1, okg, Or.inl ⟨d2 rfl, hgo⟩⟩
    · rw [if_pos (by rw [hfull, if_pos (by omega)])] at hcp
      rw [if_neg (fun z => hfu (e60.mp z))] at hxp
      rw [hcp] at d3
      dsimp only at d3
      have d3 := d3 (by decide)
      rw [hxp, if_neg (show ¬ ((1 : Int32), m_X_puts_4 X (nI p) (X 95 x)).1 = 0 by show ¬ (1 : Int32) = 0; decide)] at hgo
      dsimp only at hgo
      have eS : m_X_puts_4 X (nI p) (X 95 x) = u2 (u2 (u2 (u2 X 92 no (nI p)) 93 no (X 95 x)) 75 0 (nI (no + 1))) 94 p (X 94 p + 1) := by
        unfold m_X_puts_4 m_X_puts_3 m_X_puts_2
        rw [m1, u2_k (a := 75) (k := 92) (by decide), hno, hpt, u2_k (a := 75) (k := 93) (by decide), u2_k (a := 75) (k := 92) (by decide), o4, nI_1, u2_k (a := 94) (by decide), u2_k (a := 94) (by decide), u2_k (a := 94) (by decide)]
      have eC : m_G_tryPut_2 C (nI p) (C (2 + 14 * p + 5 + 1) x) = u2 (u2 (u2 (u2 (u2 C 72 1 (nI (no + 1))) (72 + 1) ((no + 1) % 60) (C (2 + 14 * p + 5 + 1) x)) (72 + 2) ((no + 1) % 60) (nI p)) (2 + 14 * p) 2 (C (2 + 14 * p) 2 + 1)) (2 + 14 * p + 5) 3 (C (2 + 14 * p + 5) 3 + 1) := by
        unfold m_G_tryPut_2 m_G_tryPut_1
        rw [Mb_nI hp, ap2]
        dsimp only
        rw [u2_k (a := 2 + 14 * p) (by omega), u2_k (a := 2 + 14 * p) (by omega), u2_k (a := 2 + 14 * p) (by omega), u2_k (a := 2 + 14 * p + 5) (by omega), u2_k (a := 2 + 14 * p + 5) (by omega), u2_k (a := 2 + 14 * p + 5) (by omega), u2_k (a := 2 + 14 * p + 5) (by omega)]
      rw [eC] at d3
      rw [eS] at hgo
      refine ⟨d1, okg, Or.inr ⟨_, _, d3, hgo, did_put (no' := no + 1) h hn hp hs hi hu e77 ?_ ?_ ?_ ?_ ?_ ?_ ?_ ?_ ?_⟩⟩
      · intro k h1 h2 h3
        rw [u2_k h2, u2_k h1, u2_k (by omega), u2_k (by omega), u2_k (by omega)]
      · rw [u2_k (by omega), u2_j (by decide), u2_k (by omega), u2_k (by omega), u2_k (by omega)]
      · rw [u2_k (by omega), u2_s, u2_s, f2]
      · rw [u2_k (by omega), u2_j (by decide), u2_k (by omega), u2_k (by omega), u2_k (by omega), u2_k (a := 85) (by decide), u2_k (a := 85) (by decide), u2_k (a := 85) (by decide), u2_k (a := 85) (by decide)]
        exact f3
      · rw [u2_r, u2_k (by omega), u2_k (by omega), u2_k (by omega), u2_k (by omega)]
      · intro k h1 h2 h3 h4 h5
        rw [u2_k h5, u2_k h1, u2_k h4, u2_k h3]
      · intro j hj
        rw [u2_k (by decide), u2_j hj, u2_k (by decide), u2_k (by decide)]
      · intro q hq
        rw [u2_k (a := 85) (by decide), u2_k (a := 85) (by decide), u2_k (a := 85) (by decide), u2_k (a := 85) (by decide), u2_j hq, u2_k (a := 94) (by decide), u2_k (a := 94) (by decide), u2_k (a := 94) (by decide)]
        exact ⟨rfl, rfl⟩
      · refine ⟨by omega, ?_, ?_, ?_, ?_⟩
        · rw [u2_k (by omega), u2_k (by omega), u2_k (by omega), u2_k (by omega), u2_j (by decide)]; exact o2
        · rw [u2_k (by omega), u2_k (by omega), u2_k (by omega), u2_k (by omega), u2_s]
        · rw [u2_k (by decide), u2_s]
        · intro k hk
          rw [u2_k (a := 73) (k := 2 + 14 * p + 5) (by omega), u2_k (a := 73) (k := 2 + 14 * p) (by omega), u2_k (a := 73) (k := 72 + 2) (by omega), u2_k (a := 74) (k := 2 + 14 * p + 5) (by omega), u2_k (a := 74) (k := 2 + 14 * p) (by omega), u2_k (a := 93) (k := 94) (by omega), u2_k (a := 93) (k := 75) (by omega), u2_k (a := 92) (k := 94) (by omega), u2_k (a := 92) (k := 75) (by omega), u2_k (a := 92) (k := 93) (by omega)]
          by_cases ek : k = no
          · subst ek
            rw [show (73 : Nat) = 72 + 1 from rfl, show (74 : Nat) = 72 + 2 from rfl, u2_s, u2_s, u2_s, u2_s, hreg]
            exact ⟨rfl, rfl⟩
          · rw [show (73 : Nat) = 72 + 1 from rfl, show (74 : Nat) = 72 + 2 from rfl, u2_j (k := 72 + 1) (by omega), u2_j (k := 93) ek, u2_j (k := 72 + 2) (by omega), u2_j (k := 92) ek, u2_k (a := 72 + 1) (k := 72) (by omega), u2_k (a := 72 + 2) (k := 72 + 1) (by omega), u2_k (a := 72 + 2) (k := 72) (by omega), u2_k (a := 93) (k := 92) (by omega)]
            exact o5 k (by omega)
  · rw [if_neg hle] at hcp hxp
    rw [hcp] at d3
    dsimp only at d3
    have d3 := d3 (by decide)
    rw [hxp, if_neg (show ¬ ((1 : Int32), m_X_puts_5 X (nI p) (X 95 x)).1 = 0 by show ¬ (1 : Int32) = 0; decide)] at hgo
    dsimp only at hgo
    have eS : m_X_puts_5 X (nI p) (X 95 x) = u2 X 85 p (X 85 p + 1) := by
      unfold m_X_puts_5
      rw [hpt]
    have eC : m_G_tryPut_4 C (nI p) (C (2 + 14 * p + 5 + 1) x) = u2 (u2 C (2 + 14 * p) 3 (C (2 + 14 * p) 3 + 1)) (2 + 14 * p + 5) 3 (C (2 + 14 * p + 5) 3 + 1) := by
      unfold m_G_tryPut_4 m_G_tryPut_3
      rw [Mb_nI hp, u2_k (a := 2 + 14 * p + 5) (by omega)]
    rw [eC] at d3
    rw [eS] at hgo
    refine ⟨d1, okg, Or.inr ⟨_, _, d3, hgo, did_put (no' := no) h hn hp hs hi hu e77 ?_ ?_ ?_ ?_ ?_ ?_ ?_ ?_ ?_⟩⟩
    · intro k h1 h2 h3
      rw [u2_k h2, u2_k h1]
    · rw [u2_k (by omega), u2_j (by decide)]
    · rw [u2_k (by omega), u2_j (by decide), u2_k (a := 94) (by decide)]; exact f2
    · rw [u2_k (by omega), u2_s, u2_s, f3]
    · rw [u2_r, u2_k (by omega)]
    · intro k h1 h2 h3 h4 h5
      rw [u2_k h2]
    · intro j hj
      rw [u2_k (by decide)]
    · intro q hq
      rw [u2_j hq, u2_k (by decide)]
      exact ⟨rfl, rfl⟩
    · refine rO_c h.2.2 ?_ ?_ ?_ ?_ ?_
      · rw [u2_k (by omega), u2_k (by omega)]
      · rw [u2_k (by omega), u2_k (by omega)]
      · rw [u2_k (by omega), u2_k (by omega)]
      · rw [u2_k (by decide)]
      · intro k hk
        rw [u2_k (by decide), u2_k (by decide)]
        exact ⟨rfl, rfl⟩
theorem step1 (h : Core n b C X ln tt sk ag sg tr dl se no) (hn : n ≤ 512) (hb : b + 1 < 2 ^ 30) (hp : p < 3) (hs : scr X (tr p (ag p))) : ok_G_doNext C (nI p) ∧ ok_X_go X (nI p) 0 ∧ ((∃ r : Int32, ¬ r = 1 ∧ f_G_doNext C (nI p) = (r, C) ∧ f_X_go X (nI p) 0 = (r, X)) ∨ ∃ C' X', f_G_doNext C (nI p) = (1, C') ∧ f_X_go X (nI p) 0 = (1, X') ∧ Did n b C X C' X' ln tt sk ag sg tr dl p) := by
  obtain ⟨⟨⟨p1, p2, p3, p4⟩, _, _, ⟨t1, t2, t3, t4, t5, t6, t7, ⟨i, hi17, hu⟩, t9⟩⟩, n1, n2⟩ := h.1 p hp
  have h75 : X 75 1 = nI i := hs.2.2.1.trans hu
  have h7 : C (2 + 14 * p + 5) 0 = nI i := t4.2.2.1.trans hu
  have w : (ok_G_doNext C (nI p) ∧ ok_X_go X (nI p) 0 ∧ ((f_G_doNext C (nI p) = (0, C) ∧ f_X_go X (nI p) 0 = (0, X)) ∨ ∃ C' X', f_G_doNext C (nI p) = (1, C') ∧ f_X_go X (nI p) 0 = (1, X') ∧ Did n b C X C' X' ln tt sk ag sg tr dl p)) → (ok_G_doNext C (nI p) ∧ ok_X_go X (nI p) 0 ∧ ((∃ r : Int32, ¬ r = 1 ∧ f_G_doNext C (nI p) = (r, C) ∧ f_X_go X (nI p) 0 = (r, X)) ∨ ∃ C' X', f_G_doNext C (nI p) = (1, C') ∧ f_X_go X (nI p) 0 = (1, X') ∧ Did n b C X C' X' ln tt sk ag sg tr dl p)) := by
    intro ⟨a1, a2, a3⟩
    rcases a3 with ⟨b1, b2⟩ | a3
    · exact ⟨a1, a2, Or.inl ⟨0, by decide, b1, b2⟩⟩
    · exact ⟨a1, a2, Or.inr a3⟩
  rcases Nat.lt_or_ge i (ln p) with hi | hi
  · rcases (p4 i hi).2.2.2 with ⟨e, x, hx, ha⟩ | ⟨e, x, y, hx, hy, ha, hb'⟩ | ⟨e, x, hx, ha⟩ | ⟨e, x, y, hx, hxp, hy, ha, hb'⟩ | ⟨e, x, hx, ha⟩
    · obtain ⟨a1, a2, a3⟩ := one_0 h hn hp hs hi hu e hx ha
      exact ⟨a1, a2, Or.inr a3⟩
    · rcases e with e | e | e | e
      · obtain ⟨a1, a2, a3⟩ := one_1 h hn hp hs hi hu e hx ha hy hb'
        exact ⟨a1, a2, Or.inr a3⟩
      · obtain ⟨a1, a2, a3⟩ := one_2 h hn hp hs hi hu e hx ha hy hb'
        exact ⟨a1, a2, Or.inr a3⟩
      · by_cases hc : X 95 y ≤ X 95 x
        · obtain ⟨a1, a2, a3⟩ := one_3a h hn hp hs hi hu e hx ha hy hb' hc
          exact ⟨a1, a2, Or.inr a3⟩
        · obtain ⟨a1, a2, a3⟩ := one_3b h hn hp hs hi hu e hx ha hy hb' hc
          exact ⟨a1, a2, Or.inr a3⟩
      · exact w (one_6 h hn hp hs hi hu e hx ha hy hb')
    · obtain ⟨a1, a2, a3⟩ := one_4 h hn hp hs hi hu e hx ha
      exact ⟨a1, a2, Or.inr a3⟩
    · exact w (one_5 h hn hp hs hi hu hb e hx hxp ha hy hb')
    · exact w (one_7 h hn hp hs hi hu e hx ha)
  · obtain ⟨a1, a2⟩ := dn_end hp hi hi17 p2 h7
    obtain ⟨b1, b2⟩ := go_end (X := X) (x2 := 0) hp (by rw [nI_clamp (by omega), h75, p3]; exact nI_nlt hi (by omega))
    exact ⟨a1, b1, Or.inl ⟨2, by decide, a2, b2⟩⟩
end THREE

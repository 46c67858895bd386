-- A STEP that touches the process alone
def Did (n b : Nat) (C X C' X' : Mm) (ln tt sk ag sg : Nat → Nat) (tr : Nat → Nat → Nat → Int32) (dl : Nat → Nat) (p : Nat) : Prop := ∃ (se' : Nat → Nat) (no' : Nat) (v : Nat → Int32), Core n (b + 1) C' X' ln tt sk (va_up ag p (ag p + 1)) sg (va_up tr p (va_up (tr p) (ag p + 1) v)) dl se' no' ∧ scr X' v ∧ C' (2 + 14 * p) 1 = 1 ∧ (∀ q, q < 3 → q ≠ p → C' (2 + 14 * q) 1 = C (2 + 14 * q) 1) ∧ (∀ k, (k = 81 ∨ k = 82 ∨ k = 84) → X' k = X k) ∧ (∀ k, 75 ≤ k → C' k = C k) ∧ (∀ k, k < 75 → X' k = X k)
theorem pa_s {C : Mm} {k : Nat} {op a b : Int32} (h4 : ¬ op = 4) (h3 : ¬ op = 3) : f_G_placeAfter C k op a b = C k 0 + 1 := by
  unfold f_G_placeAfter
  rw [if_neg h4, if_neg h3]
theorem okpa_s {k : Nat} {op a b : Int32} (h3 : ¬ op = 3) : ok_G_placeAfter k op a b := ⟨fun _ => trivial, fun _ => ⟨fun h => absurd h h3, fun _ => trivial⟩⟩
theorem did_plain {n b : Nat} {C X C1 Z : Mm} {ln tt sk ag sg : Nat → Nat} {tr : Nat → Nat → Nat → Int32} {dl se : Nat → Nat} {no p : Nat} {v : Nat → Int32} {nx : Int32} (h : Core n b C X ln tt sk ag sg tr dl se no) (hp : p < 3) (hC1 : ∀ k, k ≠ 2 + 14 * p + 5 → k ≠ 2 + 14 * p + 5 + 1 → C1 k = C k)
    (hst : st3 (C1 (2 + 14 * p + 5 + 1)) (C1 (2 + 14 * p + 5 + 2)) nx (C1 (2 + 14 * p + 5) 1 + 1) (C1 (2 + 14 * p + 5) 2) (C1 (2 + 14 * p + 5) 3) v) (hg : gd X Z v) (hs : stp X p (ln p) (tt p) (tr p (ag p)) v) (h9 : ∃ t, v 9 = nI t ∧ sk p ≤ t ∧ t ≤ tt p) (h7 : ∃ i, i ≤ 17 ∧ v 7 = nI i) : Did n b C X (dfin C1 (2 + 14 * p) nx) Z ln tt sk ag sg tr dl p := by
  have r (a : Nat) (ha : a ≠ 75) (hb : a ≠ 95) (hc : a ≠ 96) : Z a = X a := hg.2.1 a ha hb hc
  have cM : C1 (2 + 14 * p) = C (2 + 14 * p) := hC1 _ (by omega) (by omega)
  obtain ⟨⟨_, _, ⟨f1, f2, f3⟩, _⟩, _⟩ := h.1 p hp
  refine ⟨se, no, v, push h hp ?_ ?_ ?_ ?_ ?_ ?_ hs (dfin_v hst) h9 h7 (chs_c h ?_ ?_ ?_ ?_) (out_c h.2.2 ?_ hg.2.2 ?_ ?_), hg.1, dfin_1, ?_, ?_, ?_, ?_⟩
  · intro k h1 h2 h3 h4 h5
    rw [dfin_k h2 h3, hC1 k h3 h4]
  · rw [dfin_m (by decide), cM]
  · intro k hk
    exact r k (by omega) (by omega) (by omega)
  · intro q hq
    rw [r 85 (by decide) (by decide) (by decide), r 94 (by decide) (by decide) (by decide)]
    exact ⟨rfl, rfl⟩
  · rw [dfin_m (by decide), cM, r 94 (by decide) (by decide) (by decide)]; exact f2
  · rw [dfin_m (by decide), cM, r 85 (by decide) (by decide) (by decide)]; exact f3
  · intro k h1 h2
    rw [dfin_k (by omega) (by omega), hC1 k (by omega) (by omega)]
  · exact r 89 (by decide) (by decide) (by decide)
  · exact r 90 (by decide) (by decide) (by decide)
  · exact r 91 (by decide) (by decide) (by decide)
  · intro k h1 h2
    rw [dfin_k (by omega) (by omega), hC1 k (by omega) (by omega)]
  · exact r 92 (by decide) (by decide) (by decide)
  · exact r 93 (by decide) (by decide) (by decide)
  · intro q hq hne
    rw [dfin_k (by omega) (by omega), hC1 _ (by omega) (by omega)]
  · intro k hk
    exact r k (by omega) (by omega) (by omega)
  · intro k hk
    rw [dfin_k (by omega) (by omega), hC1 k (by omega) (by omega)]
  · intro k hk
    exact r k (by omega) (by omega) (by omega)
section ONE
variable {n b : Nat} {C X : Mm} {ln tt sk ag sg : Nat → Nat} {tr : Nat → Nat → Nat → Int32} {dl se : Nat → Nat} {no p i x y : Nat}
theorem one_0 (h : Core n b C X ln tt sk ag sg tr dl se no) (hn : n ≤ 512) (hp : p < 3) (hs : scr X (tr p (ag p))) (hi : i < ln p) (hu : tr p (ag p) 7 = nI i) (e77 : X 77 (16 * p + i) = 0) (hx : x < 4) (ha : X 78 (16 * p + i) = nI x) : ok_G_doNext C (nI p) ∧ ok_X_go X (nI p) 0 ∧ ∃ C' X', f_G_doNext C (nI p) = (1, C') ∧ f_X_go X (nI p) 0 = (1, X') ∧ Did n b C X C' X' ln tt sk ag sg tr dl p := by
  obtain ⟨⟨⟨p1, p2, p3, p4⟩, ⟨l1, l2, l3, l4, l5, l6, l7⟩, _, ⟨t1, t2, t3, t4, t5, t6, t7, t8⟩⟩, n1, n2⟩ := h.1 p hp
  obtain ⟨q2, q3, q4, _⟩ := p4 i hi
  have h75 : X 75 1 = nI i := hs.2.2.1.trans hu
  have h7 : C (2 + 14 * p + 5) 0 = nI i := t4.2.2.1.trans hu
  have hin : vp_in (nI p) 3 := vp_in_nI hp (by decide)
  have hpf : f_G_perform C (nI p) 0 (X 78 (16 * p + i)) (X 79 (16 * p + i)) = (1, u2 C (2 + 14 * p + 5 + 1) x (X 79 (16 * p + i))) := by
    rw [f_G_perform, if_pos (show (0 : Int32) = 0 from rfl)]
    unfold m_G_perform_1
    rw [Mb_nI hp, show (X 78 (16 * p + i)).toNatClampNeg = x from t_of (by omega) ha]
  have okf : ok_G_perform C (nI p) 0 (X 78 (16 * p + i)) (X 79 (16 * p + i)) := ⟨hin, ⟨fun _ => r_in hx ha, fun h => absurd rfl h⟩⟩
  obtain ⟨g1, Z, g2, g3⟩ := go_0 (val := 0) (org := 0) (x2 := 0) hp hi p1 h75 p3 hs e77 hx ha
  obtain ⟨d1, -, d3⟩ := dn_go hp hi p1 p2 h7 (q2.trans e77) q3 q4 (okpa_s (by decide)) okf
  rw [hpf] at d3
  dsimp only at d3
  have d3 := d3 (by decide)
  refine ⟨d1, g1, _, Z, d3, g2, did_plain (v := nxt 0 (X 78 (16 * p + i)) (X 79 (16 * p + i)) (0) (0) (tr p (ag p))) h hp ?_ ?_ g3 ?_ ?_ ?_⟩
  · intro k h1 h2
    rw [u2_k h2]
  · rw [pa_s (by decide) (by decide), u2_r, u2_k (a := 2 + 14 * p + 5 + 2) (by omega), u2_k (a := 2 + 14 * p + 5) (by omega)]
    exact st_0 (val := 0) (org := 0) (vst_iff.mp t4) hx ha
  · exact ⟨i, hi, hu, 0, fun h6 => absurd (e77.symm.trans h6) (by decide), fun j hj => by rw [e77]; exact congrFun (nxt_org (by decide)) j⟩
  · obtain ⟨t, a1, a2⟩ := t6
    exact ⟨t, (st_0 (val := 0) (org := 0) (vst_iff.mp t4) hx ha).2.2.2.2.1.symm.trans (t4.2.2.2.2.1.trans a1), a2⟩
  · exact ⟨i + 1, by omega, (st_0 (val := 0) (org := 0) (vst_iff.mp t4) hx ha).2.2.1.symm.trans (by rw [h7, nI_1])⟩
theorem one_1 (h : Core n b C X ln tt sk ag sg tr dl se no) (hn : n ≤ 512) (hp : p < 3) (hs : scr X (tr p (ag p))) (hi : i < ln p) (hu : tr p (ag p) 7 = nI i) (e77 : X 77 (16 * p + i) = 1) (hx : x < 4) (ha : X 78 (16 * p + i) = nI x) (hy : y < 4) (hb : X 79 (16 * p + i) = nI y) : ok_G_doNext C (nI p) ∧ ok_X_go X (nI p) 0 ∧ ∃ C' X', f_G_doNext C (nI p) = (1, C') ∧ f_X_go X (nI p) 0 = (1, X') ∧ Did n b C X C' X' ln tt sk ag sg tr dl p := by
  obtain ⟨⟨⟨p1, p2, p3, p4⟩, ⟨l1, l2, l3, l4, l5, l6, l7⟩, _, ⟨t1, t2, t3, t4, t5, t6, t7, t8⟩⟩, n1, n2⟩ := h.1 p hp
  obtain ⟨q2, q3, q4, _⟩ := p4 i hi
  have h75 : X 75 1 = nI i := hs.2.2.1.trans hu
  have h7 : C (2 + 14 * p + 5) 0 = nI i := t4.2.2.1.trans hu
  have hin : vp_in (nI p) 3 := vp_in_nI hp (by decide)
  have hpf : f_G_perform C (nI p) 1 (X 78 (16 * p + i)) (X 79 (16 * p + i)) = (1, u2 C (2 + 14 * p + 5 + 1) x (C (2 + 14 * p + 5 + 1) x + C (2 + 14 * p + 5 + 1) y)) := by
    rw [f_G_perform, if_neg (show ¬ (1 : Int32) = 0 by decide), if_pos (show (1 : Int32) = 1 from rfl)]
    unfold m_G_perform_2
    rw [Mb_nI hp, show (X 78 (16 * p + i)).toNatClampNeg = x from t_of (by omega) ha, show (X 79 (16 * p + i)).toNatClampNeg = y from t_of (by omega) hb]
  have okf : ok_G_perform C (nI p) 1 (X 78 (16 * p + i)) (X 79 (16 * p + i)) := ⟨hin, ⟨fun h => absurd h (by decide), fun _ => ⟨fun _ => ⟨r_in hx ha, r_in hy hb⟩, fun h => absurd rfl h⟩⟩⟩
  obtain ⟨g1, Z, g2, g3⟩ := go_1 (val := 0) (org := 0) (x2 := 0) hp hi p1 h75 p3 hs e77 hx ha hy hb
  obtain ⟨d1, -, d3⟩ := dn_go hp hi p1 p2 h7 (q2.trans e77) q3 q4 (okpa_s (by decide)) okf
  rw [hpf] at d3
  dsimp only at d3
  have d3 := d3 (by decide)
  refine ⟨d1, g1, _, Z, d3, g2, did_plain (v := nxt 1 (X 78 (16 * p + i)) (X 79 (16 * p + i)) (0) (0) (tr p (ag p))) h hp ?_ ?_ g3 ?_ ?_ ?_⟩
  · intro k h1 h2
    rw [u2_k h2]
  · rw [pa_s (by decide) (by decide), u2_r, u2_k (a := 2 + 14 * p + 5 + 2) (by omega), u2_k (a := 2 + 14 * p + 5) (by omega)]
    exact st_1 (val := 0) (org := 0) (vst_iff.mp t4) hx ha hy hb
  · exact ⟨i, hi, hu, 0, fun h6 => absurd (e77.symm.trans h6) (by decide), fun j hj => by rw [e77]; exact congrFun (nxt_org (by decide)) j⟩
  · obtain ⟨t, a1, a2⟩ := t6
    exact ⟨t, (st_1 (val := 0) (org := 0) (vst_iff.mp t4) hx ha hy hb).2.2.2.2.1.symm.trans (t4.2.2.2.2.1.trans a1), a2⟩
  · exact ⟨i + 1, by omega, (st_1 (val := 0) (org := 0) (vst_iff.mp t4) hx ha hy hb).2.2.1.symm.trans (by rw [h7, nI_1])⟩
theorem one_2 (h : Core n b C X ln tt sk ag sg tr dl se no) (hn : n ≤ 512) (hp : p < 3) (hs : scr X (tr p (ag p))) (hi : i < ln p) (hu : tr p (ag p) 7 = nI i) (e77 : X 77 (16 * p + i) = 2) (hx : x < 4) (ha : X 78 (16 * p + i) = nI x) (hy : y < 4) (hb : X 79 (16 * p + i) = nI y) : ok_G_doNext C (nI p) ∧ ok_X_go X (nI p) 0 ∧ ∃ C' X', f_G_doNext C (nI p) = (1, C') ∧ f_X_go X (nI p) 0 = (1, X') ∧ Did n b C X C' X' ln tt sk ag sg tr dl p := by
  obtain ⟨⟨⟨p1, p2, p3, p4⟩, ⟨l1, l2, l3, l4, l5, l6, l7⟩, _, ⟨t1, t2, t3, t4, t5, t6, t7, t8⟩⟩, n1, n2⟩ := h.1 p hp
  obtain ⟨q2, q3, q4, _⟩ := p4 i hi
  have h75 : X 75 1 = nI i := hs.2.2.1.trans hu
  have h7 : C (2 + 14 * p + 5) 0 = nI i := t4.2.2.1.trans hu
  have hin : vp_in (nI p) 3 := vp_in_nI hp (by decide)
  have hpf : f_G_perform C (nI p) 2 (X 78 (16 * p + i)) (X 79 (16 * p + i)) = (1, u2 C (2 + 14 * p + 5 + 1) x (C (2 + 14 * p + 5 + 1) x * C (2 + 14 * p + 5 + 1) y)) := by
    rw [f_G_perform, if_neg (show ¬ (2 : Int32) = 0 by decide), if_neg (show ¬ (2 : Int32) = 1 by decide), if_pos (show (2 : Int32) = 2 from rfl)]
    unfold m_G_perform_3
    rw [Mb_nI hp, show (X 78 (16 * p + i)).toNatClampNeg = x from t_of (by omega) ha, show (X 79 (16 * p + i)).toNatClampNeg = y from t_of (by omega) hb]
  have okf : ok_G_perform C (nI p) 2 (X 78 (16 * p + i)) (X 79 (16 * p + i)) := ⟨hin, ⟨fun h => absurd h (by decide), fun _ => ⟨fun h => absurd h (by decide), fun _ => ⟨fun _ => ⟨r_in hx ha, r_in hy hb⟩, fun h => absurd rfl h⟩⟩⟩⟩
  obtain ⟨g1, Z, g2, g3⟩ := go_2 (val := 0) (org := 0) (x2 := 0) hp hi p1 h75 p3 hs e77 hx ha hy hb
  obtain ⟨d1, -, d3⟩ := dn_go hp hi p1 p2 h7 (q2.trans e77) q3 q4 (okpa_s (by decide)) okf
  rw [hpf] at d3
  dsimp only at d3
  have d3 := d3 (by decide)
  refine ⟨d1, g1, _, Z, d3, g2, did_plain (v := nxt 2 (X 78 (16 * p + i)) (X 79 (16 * p + i)) (0) (0) (tr p (ag p))) h hp ?_ ?_ g3 ?_ ?_ ?_⟩
  · intro k h1 h2
    rw [u2_k h2]
  · rw [pa_s (by decide) (by decide), u2_r, u2_k (a := 2 + 14 * p + 5 + 2) (by omega), u2_k (a := 2 + 14 * p + 5) (by omega)]
    exact st_2 (val := 0) (org := 0) (vst_iff.mp t4) hx ha hy hb
  · exact ⟨i, hi, hu, 0, fun h6 => absurd (e77.symm.trans h6) (by decide), fun j hj => by rw [e77]; exact congrFun (nxt_org (by decide)) j⟩
  · obtain ⟨t, a1, a2⟩ := t6
    exact ⟨t, (st_2 (val := 0) (org := 0) (vst_iff.mp t4) hx ha hy hb).2.2.2.2.1.symm.trans (t4.2.2.2.2.1.trans a1), a2⟩
  · exact ⟨i + 1, by omega, (st_2 (val := 0) (org := 0) (vst_iff.mp t4) hx ha hy hb).2.2.1.symm.trans (by rw [h7, nI_1])⟩
theorem one_3a (h : Core n b C X ln tt sk ag sg tr dl se no) (hn : n ≤ 512) (hp : p < 3) (hs : scr X (tr p (ag p))) (hi : i < ln p) (hu : tr p (ag p) 7 = nI i) (e77 : X 77 (16 * p + i) = 3) (hx : x < 4) (ha : X 78 (16 * p + i) = nI x) (hy : y < 4) (hb : X 79 (16 * p + i) = nI y) (hc : X 95 y ≤ X 95 x) : ok_G_doNext C (nI p) ∧ ok_X_go X (nI p) 0 ∧ ∃ C' X', f_G_doNext C (nI p) = (1, C') ∧ f_X_go X (nI p) 0 = (1, X') ∧ Did n b C X C' X' ln tt sk ag sg tr dl p := by
  obtain ⟨⟨⟨p1, p2, p3, p4⟩, ⟨l1, l2, l3, l4, l5, l6, l7⟩, _, ⟨t1, t2, t3, t4, t5, t6, t7, t8⟩⟩, n1, n2⟩ := h.1 p hp
  obtain ⟨q2, q3, q4, _⟩ := p4 i hi
  have h75 : X 75 1 = nI i := hs.2.2.1.trans hu
  have h7 : C (2 + 14 * p + 5) 0 = nI i := t4.2.2.1.trans hu
  have hin : vp_in (nI p) 3 := vp_in_nI hp (by decide)
  have hcC : C (2 + 14 * p + 5 + 1) y ≤ C (2 + 14 * p + 5 + 1) x := by
    rw [t4.1 y hy, t4.1 x hx, ← hs.1 y hy, ← hs.1 x hx]
    exact hc
  have hpf : f_G_perform C (nI p) 3 (X 78 (16 * p + i)) (X 79 (16 * p + i)) = (1, C) := by
    rw [f_G_perform, if_neg (show ¬ (3 : Int32) = 0 by decide), if_neg (show ¬ (3 : Int32) = 1 by decide), if_neg (show ¬ (3 : Int32) = 2 by decide), if_pos (show (3 : Int32) = 3 from rfl)]
  have okf : ok_G_perform C (nI p) 3 (X 78 (16 * p + i)) (X 79 (16 * p + i)) := ⟨hin, ⟨fun h => absurd h (by decide), fun _ => ⟨fun h => absurd h (by decide), fun _ => ⟨fun h => absurd h (by decide), fun _ => ⟨fun _ => trivial, fun h => absurd rfl h⟩⟩⟩⟩⟩
  obtain ⟨g1, Z, g2, g3⟩ := go_3a (val := 0) (org := 0) (x2 := 0) hp hi p1 h75 p3 hs e77 hx ha hy hb hc
  obtain ⟨d1, -, d3⟩ := dn_go hp hi p1 p2 h7 (q2.trans e77) q3 q4 ⟨fun h => absurd h (by decide), fun _ => ⟨fun _ => ⟨r_in hx ha, r_in hy hb⟩, fun h => absurd rfl h⟩⟩ okf
  rw [hpf] at d3
  dsimp only at d3
  have d3 := d3 (by decide)
  refine ⟨d1, g1, _, Z, d3, g2, did_plain (v := nxt 3 (X 78 (16 * p + i)) (X 79 (16 * p + i)) (0) (0) (tr p (ag p))) h hp ?_ ?_ g3 ?_ ?_ ?_⟩
  · intro k h1 h2
    rfl
  · rw [f_G_placeAfter, if_neg (show ¬ (3 : Int32) = 4 by decide), if_pos (show (3 : Int32) = 3 from rfl), show (X 78 (16 * p + i)).toNatClampNeg = x from t_of (by omega) ha, show (X 79 (16 * p + i)).toNatClampNeg = y from t_of (by omega) hb]
    exact st_3 (val := 0) (org := 0) (vst_iff.mp t4) hx ha hy hb
  · exact ⟨i, hi, hu, 0, fun h6 => absurd (e77.symm.trans h6) (by decide), fun j hj => by rw [e77]; exact congrFun (nxt_org (by decide)) j⟩
  · obtain ⟨t, a1, a2⟩ := t6
    exact ⟨t, (st_3 (val := 0) (org := 0) (vst_iff.mp t4) hx ha hy hb).2.2.2.2.1.symm.trans (t4.2.2.2.2.1.trans a1), a2⟩
  · exact ⟨i + 1, by omega, (st_3 (val := 0) (org := 0) (vst_iff.mp t4) hx ha hy hb).2.2.1.symm.trans (by rw [if_pos hcC, h7, nI_1])⟩
theorem one_3b (h : Core n b C X ln tt sk ag sg tr dl se no) (hn : n ≤ 512) (hp : p < 3) (hs : scr X (tr p (ag p))) (hi : i < ln p) (hu : tr p (ag p) 7 = nI i) (e77 : X 77 (16 * p + i) = 3) (hx : x < 4) (ha : X 78 (16 * p + i) = nI x) (hy : y < 4) (hb : X 79 (16 * p + i) = nI y) (hc : ¬ X 95 y ≤ X 95 x) : ok_G_doNext C (nI p) ∧ ok_X_go X (nI p) 0 ∧ ∃ C' X', f_G_doNext C (nI p) = (1, C') ∧ f_X_go X (nI p) 0 = (1, X') ∧ Did n b C X C' X' ln tt sk ag sg tr dl p := by
  obtain ⟨⟨⟨p1, p2, p3, p4⟩, ⟨l1, l2, l3, l4, l5, l6, l7⟩, _, ⟨t1, t2, t3, t4, t5, t6, t7, t8⟩⟩, n1, n2⟩ := h.1 p hp
  obtain ⟨q2, q3, q4, _⟩ := p4 i hi
  have h75 : X 75 1 = nI i := hs.2.2.1.trans hu
  have h7 : C (2 + 14 * p + 5) 0 = nI i := t4.2.2.1.trans hu
  have hin : vp_in (nI p) 3 := vp_in_nI hp (by decide)
  have hcC : ¬ C (2 + 14 * p + 5 + 1) y ≤ C (2 + 14 * p + 5 + 1) x := by
    rw [t4.1 y hy, t4.1 x hx, ← hs.1 y hy, ← hs.1 x hx]
    exact hc
  have hpf : f_G_perform C (nI p) 3 (X 78 (16 * p + i)) (X 79 (16 * p + i)) = (1, C) := by
    rw [f_G_perform, if_neg (show ¬ (3 : Int32) = 0 by decide), if_neg (show ¬ (3 : Int32) = 1 by decide), if_neg (show ¬ (3 : Int32) = 2 by decide), if_pos (show (3 : Int32) = 3 from rfl)]
  have okf : ok_G_perform C (nI p) 3 (X 78 (16 * p + i)) (X 79 (16 * p + i)) := ⟨hin, ⟨fun h => absurd h (by decide), fun _ => ⟨fun h => absurd h (by decide), fun _ => ⟨fun h => absurd h (by decide), fun _ => ⟨fun _ => trivial, fun h => absurd rfl h⟩⟩⟩⟩⟩
  obtain ⟨g1, Z, g2, g3⟩ := go_3b (val := 0) (org := 0) (x2 := 0) hp hi p1 h75 p3 hs e77 hx ha hy hb hc
  obtain ⟨d1, -, d3⟩ := dn_go hp hi p1 p2 h7 (q2.trans e77) q3 q4 ⟨fun h => absurd h (by decide), fun _ => ⟨fun _ => ⟨r_in hx ha, r_in hy hb⟩, fun h => absurd rfl h⟩⟩ okf
  rw [hpf] at d3
  dsimp only at d3
  have d3 := d3 (by decide)
  refine ⟨d1, g1, _, Z, d3, g2, did_plain (v := nxt 3 (X 78 (16 * p + i)) (X 79 (16 * p + i)) (0) (0) (tr p (ag p))) h hp ?_ ?_ g3 ?_ ?_ ?_⟩
  · intro k h1 h2
    rfl
  · rw [f_G_placeAfter, if_neg (show ¬ (3 : Int32) = 4 by decide), if_pos (show (3 : Int32) = 3 from rfl), show (X 78 (16 * p + i)).toNatClampNeg = x from t_of (by omega) ha, show (X 79 (16 * p + i)).toNatClampNeg = y from t_of (by omega) hb]
    exact st_3 (val := 0) (org := 0) (vst_iff.mp t4) hx ha hy hb
  · exact ⟨i, hi, hu, 0, fun h6 => absurd (e77.symm.trans h6) (by decide), fun j hj => by rw [e77]; exact congrFun (nxt_org (by decide)) j⟩
  · obtain ⟨t, a1, a2⟩ := t6
    exact ⟨t, (st_3 (val := 0) (org := 0) (vst_iff.mp t4) hx ha hy hb).2.2.2.2.1.symm.trans (t4.2.2.2.2.1.trans a1), a2⟩
  · exact ⟨i + 2, by omega, (st_3 (val := 0) (org := 0) (vst_iff.mp t4) hx ha hy hb).2.2.1.symm.trans (by rw [if_neg hcC, h7, show (2 : Int32) = nI 2 from rfl, nI_add])⟩
theorem one_4 (h : Core n b C X ln tt sk ag sg tr dl se no) (hn : n ≤ 512) (hp : p < 3) (hs : scr X (tr p (ag p))) (hi : i < ln p) (hu : tr p (ag p) 7 = nI i) (e77 : X 77 (16 * p + i) = 4) (hx : x < 16) (ha : X 78 (16 * p + i) = nI x) : ok_G_doNext C (nI p) ∧ ok_X_go X (nI p) 0 ∧ ∃ C' X', f_G_doNext C (nI p) = (1, C') ∧ f_X_go X (nI p) 0 = (1, X') ∧ Did n b C X C' X' ln tt sk ag sg tr dl p := by
  obtain ⟨⟨⟨p1, p2, p3, p4⟩, ⟨l1, l2, l3, l4, l5, l6, l7⟩, _, ⟨t1, t2, t3, t4, t5, t6, t7, t8⟩⟩, n1, n2⟩ := h.1 p hp
  obtain ⟨q2, q3, q4, _⟩ := p4 i hi
  have h75 : X 75 1 = nI i := hs.2.2.1.trans hu
  have h7 : C (2 + 14 * p + 5) 0 = nI i := t4.2.2.1.trans hu
  have hin : vp_in (nI p) 3 := vp_in_nI hp (by decide)
  have hpf : f_G_perform C (nI p) 4 (X 78 (16 * p + i)) (X 79 (16 * p + i)) = (1, C) := by
    rw [f_G_perform, if_neg (show ¬ (4 : Int32) = 0 by decide), if_neg (show ¬ (4 : Int32) = 1 by decide), if_neg (show ¬ (4 : Int32) = 2 by decide), if_neg (show ¬ (4 : Int32) = 3 by decide), if_pos (show (4 : Int32) = 4 from rfl)]
  have okf : ok_G_perform C (nI p) 4 (X 78 (16 * p + i)) (X 79 (16 * p + i)) := ⟨hin, ⟨fun h => absurd h (by decide), fun _ => ⟨fun h => absurd h (by decide), fun _ => ⟨fun h => absurd h (by decide), fun _ => ⟨fun h => absurd h (by decide), fun _ => ⟨fun _ => trivial, fun h => absurd rfl h⟩⟩⟩⟩⟩⟩
  obtain ⟨g1, Z, g2, g3⟩ := go_4 (val := 0) (org := 0) (x2 := 0) hp hi p1 h75 p3 hs e77
  obtain ⟨d1, -, d3⟩ := dn_go hp hi p1 p2 h7 (q2.trans e77) q3 q4 ⟨fun _ => trivial, fun h => absurd rfl h⟩ okf
  rw [hpf] at d3
  dsimp only at d3
  have d3 := d3 (by decide)
  refine ⟨d1, g1, _, Z, d3, g2, did_plain (v := nxt 4 (X 78 (16 * p + i)) (X 79 (16 * p + i)) (0) (0) (tr p (ag p))) h hp ?_ ?_ g3 ?_ ?_ ?_⟩
  · intro k h1 h2
    rfl
  · rw [f_G_placeAfter, if_pos (show (4 : Int32) = 4 from rfl)]
    exact st_4 (a := X 78 (16 * p + i)) (b := X 79 (16 * p + i)) (val := 0) (org := 0) (vst_iff.mp t4)
  · exact ⟨i, hi, hu, 0, fun h6 => absurd (e77.symm.trans h6) (by decide), fun j hj => by rw [e77]; exact congrFun (nxt_org (by decide)) j⟩
  · obtain ⟨t, a1, a2⟩ := t6
    exact ⟨t, (st_4 (a := X 78 (16 * p + i)) (b := X 79 (16 * p + i)) (val := 0) (org := 0) (vst_iff.mp t4)).2.2.2.2.1.symm.trans (t4.2.2.2.2.1.trans a1), a2⟩
  · exact ⟨x, by omega, (st_4 (a := X 78 (16 * p + i)) (b := X 79 (16 * p + i)) (val := 0) (org := 0) (vst_iff.mp t4)).2.2.1.symm.trans ha⟩
end ONE

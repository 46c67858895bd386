section TWO
variable {n b : Nat} {C X : Mm} {ln tt sk ag sg : Nat → Nat} {tr : Nat → Nat → Nat → Int32} {dl se : Nat → Nat} {no p i x y : Nat}
theorem has_n {r t g l : Nat} (h0 : C r 0 = nI g) (h1 : C r 1 = nI l) (hg : g < 2 ^ 30) (hl : l < 2 ^ 30) (ht : t < 2 ^ 30) : f_R_has C r n (nI t) = if g < t ∧ t ≤ l then 1 else 0 := by
  unfold f_R_has
  rw [h0, h1]
  by_cases a : g < t
  · rw [if_neg (nI_ge a (by omega))]
    by_cases b : t ≤ l
    · rw [if_neg (nI_nlt b (by omega)), if_pos ⟨a, b⟩]
    · rw [if_pos (nI_lt (by omega) (by omega)), if_neg (fun z => b z.2)]
  · rw [if_pos (nI_le (by omega) (by omega)), if_neg (fun z => a z.1)]
theorem one_6 (h : Core n b C X ln tt sk ag sg tr dl se no) (hn : n ≤ 512) (hp : p < 3) (hs : scr X (tr p (ag p))) (hi : i < ln p) (hu : tr p (ag p) 7 = nI i) (e77 : X 77 (16 * p + i) = 6) (hx : x < 4) (ha : X 78 (16 * p + i) = nI x) (hy : y < 4) (hb : X 79 (16 * p + i) = nI y) : ok_G_doNext C (nI p) ∧ ok_X_go X (nI p) 0 ∧ ((f_G_doNext C (nI p) = (0, C) ∧ f_X_go X (nI p) 0 = (0, X)) ∨ ∃ C' X', f_G_doNext C (nI p) = (1, C') ∧ f_X_go X (nI p) 0 = (1, X') ∧ Did n b C X C' X' ln tt sk ag sg tr dl p) := by
  obtain ⟨⟨⟨p1, p2, p3, p4⟩, ⟨l1, l2, l3, l4, l5, l6, l7⟩, _, ⟨t1, t2, t3, t4, t5, t6, t7, t8⟩⟩, n1, n2⟩ := h.1 p hp
  obtain ⟨q2, q3, q4, _⟩ := p4 i hi
  have h75 : X 75 1 = nI i := hs.2.2.1.trans hu
  have h7 : C (2 + 14 * p + 5) 0 = nI i := t4.2.2.1.trans hu
  have hin : vp_in (nI p) 3 := vp_in_nI hp (by decide)
  obtain ⟨t, a1, a2, a3⟩ := t6
  have htk : C (2 + 14 * p + 5) 2 = nI t := t4.2.2.2.2.1.trans a1
  have htx : X 75 2 = nI t := hs.2.2.2.2.1.trans a1
  have hhas : f_R_has C (2 + 14 * p + 11) 20 (C (2 + 14 * p + 5) 2 + 1) = if sk p < t + 1 ∧ t + 1 ≤ tt p then 1 else 0 := by
    rw [htk, nI_1]
    exact has_n l3 l4 (by omega) (by omega) (by omega)
  by_cases hw : t = tt p
  · have hz : f_R_has C (2 + 14 * p + 11) 20 (C (2 + 14 * p + 5) 2 + 1) = 0 := by rw [hhas, if_neg (by omega)]
    have hpf : f_G_perform C (nI p) 6 (X 78 (16 * p + i)) (X 79 (16 * p + i)) = (0, C) := by
      rw [f_G_perform, if_neg (show ¬ (6 : Int32) = 0 by decide), if_neg (show ¬ (6 : Int32) = 1 by decide), if_neg (show ¬ (6 : Int32) = 2 by decide), if_neg (show ¬ (6 : Int32) = 3 by decide), if_neg (show ¬ (6 : Int32) = 4 by decide), if_neg (show ¬ (6 : Int32) = 5 by decide), if_pos (show (6 : Int32) = 6 from rfl), f_G_tryReceive, Mb_nI hp, if_pos hz]
    have okf : ok_G_perform C (nI p) 6 (X 78 (16 * p + i)) (X 79 (16 * p + i)) := by
      refine ⟨hin, ⟨fun h => absurd h (by decide), fun _ => ⟨fun h => absurd h (by decide), fun _ => ⟨fun h => absurd h (by decide), fun _ => ⟨fun h => absurd h (by decide), fun _ => ⟨fun h => absurd h (by decide), fun _ => ⟨fun h => absurd h (by decide), fun _ => ⟨fun _ => ?_, fun h => absurd rfl h⟩⟩⟩⟩⟩⟩⟩⟩
      unfold ok_G_tryReceive
      rw [Mb_nI hp]
      exact ⟨hin, fun _ => trivial, fun h => absurd hz h⟩
    obtain ⟨d1, d2, -⟩ := dn_go hp hi p1 p2 h7 (q2.trans e77) q3 q4 (okpa_s (by decide)) okf
    rw [hpf] at d2
    obtain ⟨g1, g2⟩ := go_6w (x2 := 0) hp hi p1 h75 p3 e77 (by rw [nI_clamp (by omega), htx, l6, hw])
    exact ⟨d1, g1, Or.inl ⟨d2 rfl, g2⟩⟩
  · have hz : f_R_has C (2 + 14 * p + 11) 20 (C (2 + 14 * p + 5) 2 + 1) = 1 := by rw [hhas, if_pos (by omega)]
    have hz' : ¬ f_R_has C (2 + 14 * p + 11) 20 (C (2 + 14 * p + 5) 2 + 1) = 0 := by rw [hz]; decide
    obtain ⟨r1, r2⟩ := l7 t a2 (by omega)
    have eo : f_R_originAt C (2 + 14 * p + 11) 20 (C (2 + 14 * p + 5) 2 + 1) = X 88 (512 * p + t) := by
      unfold f_R_originAt
      rw [htk, nI_1, slot_tn (by omega) (by decide) (by decide)]
      exact r2
    have e1 : m_G_tryReceive_1 C (nI p) (X 78 (16 * p + i)) (X 79 (16 * p + i)) = u2 C (2 + 14 * p + 5 + 1) y (X 88 (512 * p + t)) := by
      unfold m_G_tryReceive_1
      rw [Mb_nI hp, eo, show (X 79 (16 * p + i)).toNatClampNeg = y from t_of (by omega) hb]
    have ev : f_R_valueAt (m_G_tryReceive_1 C (nI p) (X 78 (16 * p + i)) (X 79 (16 * p + i))) (2 + 14 * p + 11) 20 (C (2 + 14 * p + 5) 2 + 1) = X 87 (512 * p + t) := by
      unfold f_R_valueAt
      rw [e1, u2_k (by omega), htk, nI_1, slot_tn (by omega) (by decide) (by decide)]
      exact r1
    have e3 : m_G_tryReceive_3 C (nI p) (X 78 (16 * p + i)) (X 79 (16 * p + i)) = u2 (u2 (u2 C (2 + 14 * p + 5 + 1) y (X 88 (512 * p + t))) (2 + 14 * p + 5 + 1) x (X 87 (512 * p + t))) (2 + 14 * p + 5) 2 (C (2 + 14 * p + 5) 2 + 1) := by
      unfold m_G_tryReceive_3 m_G_tryReceive_2
      rw [Mb_nI hp, ev, e1, show (X 78 (16 * p + i)).toNatClampNeg = x from t_of (by omega) ha]
    have hpf : f_G_perform C (nI p) 6 (X 78 (16 * p + i)) (X 79 (16 * p + i)) = (1, u2 (u2 (u2 C (2 + 14 * p + 5 + 1) y (X 88 (512 * p + t))) (2 + 14 * p + 5 + 1) x (X 87 (512 * p + t))) (2 + 14 * p + 5) 2 (C (2 + 14 * p + 5) 2 + 1)) := by
      rw [f_G_perform, if_neg (show ¬ (6 : Int32) = 0 by decide), if_neg (show ¬ (6 : Int32) = 1 by decide), if_neg (show ¬ (6 : Int32) = 2 by decide), if_neg (show ¬ (6 : Int32) = 3 by decide), if_neg (show ¬ (6 : Int32) = 4 by decide), if_neg (show ¬ (6 : Int32) = 5 by decide), if_pos (show (6 : Int32) = 6 from rfl), f_G_tryReceive, Mb_nI hp, if_neg hz', e3]
    have oks : ok_R_slot (2 + 14 * p + 11) 20 (C (2 + 14 * p + 5) 2 + 1) ∧ vp_in (f_R_slot (2 + 14 * p + 11) 20 (C (2 + 14 * p + 5) 2 + 1)) 20 := by
      rw [htk, nI_1]
      exact oks_nI (by omega) (by decide) (by decide)
    have okf : ok_G_perform C (nI p) 6 (X 78 (16 * p + i)) (X 79 (16 * p + i)) := by
      refine ⟨hin, ⟨fun h => absurd h (by decide), fun _ => ⟨fun h => absurd h (by decide), fun _ => ⟨fun h => absurd h (by decide), fun _ => ⟨fun h => absurd h (by decide), fun _ => ⟨fun h => absurd h (by decide), fun _ => ⟨fun h => absurd h (by decide), fun _ => ⟨fun _ => ?_, fun h => absurd rfl h⟩⟩⟩⟩⟩⟩⟩⟩
      unfold ok_G_tryReceive
      rw [Mb_nI hp]
      exact ⟨hin, fun h => absurd h hz', fun _ => ⟨oks, r_in hy hb, oks, r_in hx ha⟩⟩
    obtain ⟨d1, -, d3⟩ := dn_go hp hi p1 p2 h7 (q2.trans e77) q3 q4 (okpa_s (by decide)) okf
    rw [hpf] at d3
    dsimp only at d3
    have d3 := d3 (by decide)
    obtain ⟨g1, Z, g2, g3⟩ := go_6 (x2 := 0) hp hi p1 h75 p3 hs e77 hx ha hy hb htx l6 (by omega) (by omega)
    have st := st_6 (val := X 87 (512 * p + t)) (org := X 88 (512 * p + t)) (vst_iff.mp t4) hx ha hy hb
    refine ⟨d1, g1, Or.inr ⟨_, Z, d3, g2, did_plain (v := nxt 6 (X 78 (16 * p + i)) (X 79 (16 * p + i)) (X 87 (512 * p + t)) (X 88 (512 * p + t)) (tr p (ag p))) h hp ?_ ?_ g3 ?_ ?_ ?_⟩⟩
    · intro k h1 h2
      rw [u2_k h1, u2_k h2, u2_k h2]
    · rw [pa_s (by decide) (by decide), u2_k (a := 2 + 14 * p + 5 + 1) (k := 2 + 14 * p + 5) (by omega), u2_r, u2_r, u2_k (a := 2 + 14 * p + 5 + 2) (by omega), u2_k (a := 2 + 14 * p + 5 + 2) (by omega), u2_k (a := 2 + 14 * p + 5 + 2) (by omega), u2_j (b := 1) (by decide), u2_j (b := 3) (by decide), u2_s, u2_k (a := 2 + 14 * p + 5) (by omega), u2_k (a := 2 + 14 * p + 5) (by omega)]
      exact st
    · exact ⟨i, hi, hu, t, fun _ => ⟨by omega, a1⟩, fun j hj => by rw [e77]⟩
    · exact ⟨t + 1, st.2.2.2.2.1.symm.trans (by rw [htk, nI_1]), by omega, by omega⟩
    · exact ⟨i + 1, by omega, st.2.2.1.symm.trans (by rw [h7, nI_1])⟩
theorem did_send {C1 S : Mm} {se' : Nat → Nat} (h : Core n b C X ln tt sk ag sg tr dl se no) (hn : n ≤ 512) (hp : p < 3) (hs : scr X (tr p (ag p))) (hi : i < ln p) (hu : tr p (ag p) 7 = nI i) (e77 : X 77 (16 * p + i) = 5) (hx : x < 3) (ha : X 78 (16 * p + i) = nI x) (hC1 : ∀ k, k ≠ 2 + 14 * p → k ≠ 2 + 14 * p + 5 + 2 → (k < 45 ∨ 72 ≤ k) → C1 k = C k) (hM : ∀ j, j ≠ 3 → C1 (2 + 14 * p) j = C (2 + 14 * p) j) (hF3 : C1 (2 + 14 * p) 3 = S 85 p) (hS : ∀ k, k ≠ 85 → k ≠ 89 → k ≠ 91 → S k = X k) (h85 : ∀ q, q ≠ p → S 85 q = X 85 q) (hrow : C1 (2 + 14 * p + 5 + 2) = upd (C (2 + 14 * p + 5 + 2)) x (C (2 + 14 * p + 5 + 2) x + 1)) (hch : ∀ c, c < 9 → rC C1 S c (dl c) (se' c) ∧ se' c ≤ b + 1) : Did n b C X (dfin C1 (2 + 14 * p) (C (2 + 14 * p + 5) 0 + 1)) (u2 (u2 (u2 S 96 x (S 96 x + 1)) 75 1 (X 75 1 + 1)) 75 4 ((u2 (u2 S 96 x (S 96 x + 1)) 75 1 (X 75 1 + 1)) 75 4 + 1)) ln tt sk ag sg tr dl p := by
  obtain ⟨⟨⟨p1, p2, p3, p4⟩, ⟨l1, l2, l3, l4, l5, l6, l7⟩, _, ⟨t1, t2, t3, t4, t5, t6, t7, t8⟩⟩, n1, n2⟩ := h.1 p hp
  obtain ⟨q2, q3, q4, _⟩ := p4 i hi
  have h75 : X 75 1 = nI i := hs.2.2.1.trans hu
  have h7 : C (2 + 14 * p + 5) 0 = nI i := t4.2.2.1.trans hu
  have hin : vp_in (nI p) 3 := vp_in_nI hp (by decide)
  obtain ⟨⟨_, _, ⟨f1, f2, f3⟩, _⟩, _⟩ := h.1 p hp
  have stC := st_5 (b := X 79 (16 * p + i)) (val := 0) (org := 0) (vst_iff.mp t4) hx ha
  have stX := st_5 (b := X 79 (16 * p + i)) (val := 0) (org := 0) (scr_iff.mp hs) hx ha
  have z (k : Nat) (h1 : k ≠ 75) (h2 : k ≠ 96) : (u2 (u2 (u2 S 96 x (S 96 x + 1)) 75 1 (X 75 1 + 1)) 75 4 ((u2 (u2 S 96 x (S 96 x + 1)) 75 1 (X 75 1 + 1)) 75 4 + 1)) k = S k := by rw [fin_k h1, u2_k h2]
  have z0 : (u2 (u2 (u2 S 96 x (S 96 x + 1)) 75 1 (X 75 1 + 1)) 75 4 ((u2 (u2 S 96 x (S 96 x + 1)) 75 1 (X 75 1 + 1)) 75 4 + 1)) 75 0 = X 75 0 := by rw [fin_0, u2_k (by decide), hS 75 (by decide) (by decide) (by decide)]
  have hv : vst (dfin C1 (2 + 14 * p) (C (2 + 14 * p + 5) 0 + 1)) (2 + 14 * p + 5) (nxt 5 (X 78 (16 * p + i)) (X 79 (16 * p + i)) 0 0 (tr p (ag p))) := by
    refine dfin_v ?_
    rw [hrow, hC1 (2 + 14 * p + 5 + 1) (by omega) (by omega) (by omega), hC1 (2 + 14 * p + 5) (by omega) (by omega) (by omega)]
    exact stC
  have hsx : scr (u2 (u2 (u2 S 96 x (S 96 x + 1)) 75 1 (X 75 1 + 1)) 75 4 ((u2 (u2 S 96 x (S 96 x + 1)) 75 1 (X 75 1 + 1)) 75 4 + 1)) (nxt 5 (X 78 (16 * p + i)) (X 79 (16 * p + i)) 0 0 (tr p (ag p))) := by
    refine fin_scr ?_
    rw [u2_r, u2_k (a := 95) (by decide), u2_k (a := 75) (by decide), hS 95 (by decide) (by decide) (by decide), hS 96 (by decide) (by decide) (by decide), hS 75 (by decide) (by decide) (by decide)]
    exact stX
  refine ⟨se', no, nxt 5 (X 78 (16 * p + i)) (X 79 (16 * p + i)) 0 0 (tr p (ag p)), push h hp ?_ ?_ ?_ ?_ ?_ ?_ ?_ hv ?_ ?_ ?_ (out_c h.2.2 ?_ z0 ?_ ?_), hsx, dfin_1, ?_, ?_, ?_, ?_⟩
  · intro k h1 h2 h3 h4 h5
    rw [dfin_k h2 h3, hC1 k h2 h5 (by omega)]
  · rw [dfin_m (by decide), hM 0 (by decide)]
  · intro k hk
    rw [z k (by omega) (by omega), hS k (by omega) (by omega) (by omega)]
  · intro q hq
    rw [z 85 (by decide) (by decide), z 94 (by decide) (by decide), h85 q hq, hS 94 (by decide) (by decide) (by decide)]
    exact ⟨rfl, rfl⟩
  · rw [dfin_m (by decide), hM 2 (by decide), z 94 (by decide) (by decide), hS 94 (by decide) (by decide) (by decide)]; exact f2
  · rw [dfin_m (by decide), z 85 (by decide) (by decide)]; exact hF3
  · exact ⟨i, hi, hu, 0, fun h6 => absurd (e77.symm.trans h6) (by decide), fun j hj => by rw [e77]; exact congrFun (nxt_org (by decide)) j⟩
  · obtain ⟨t, a1, a2⟩ := t6
    exact ⟨t, stC.2.2.2.2.1.symm.trans (t4.2.2.2.2.1.trans a1), a2⟩
  · exact ⟨i + 1, by omega, stC.2.2.1.symm.trans (by rw [h7, nI_1])⟩
  · intro c hc
    refine ⟨rC_c (hch c hc).1 (dfin_k (by omega) (by omega)) (dfin_k (by omega) (by omega)) ?_ ?_ ?_, (hch c hc).2⟩
    · rw [z 89 (by decide) (by decide)]
    · rw [z 90 (by decide) (by decide)]
    · rw [z 91 (by decide) (by decide)]; exact fun _ _ => rfl
  · intro k h1 h2
    rw [dfin_k (by omega) (by omega), hC1 k (by omega) (by omega) (by omega)]
  · rw [z 92 (by decide) (by decide), hS 92 (by decide) (by decide) (by decide)]
  · rw [z 93 (by decide) (by decide), hS 93 (by decide) (by decide) (by decide)]
  · intro q hq hne
    rw [dfin_k (by omega) (by omega), hC1 _ (by omega) (by omega) (by omega)]
  · intro k hk
    rw [z k (by omega) (by omega), hS k (by omega) (by omega) (by omega)]
  · intro k hk
    rw [dfin_k (by omega) (by omega), hC1 k (by omega) (by omega) (by omega)]
  · intro k hk
    rw [z k (by omega) (by omega), hS k (by omega) (by omega) (by omega)]
theorem one_5 (h : Core n b C X ln tt sk ag sg tr dl se no) (hn : n ≤ 512) (hp : p < 3) (hs : scr X (tr p (ag p))) (hi : i < ln p) (hu : tr p (ag p) 7 = nI i) (hb2 : b + 1 < 2 ^ 30) (e77 : X 77 (16 * p + i) = 5) (hx : x < 3) (hxp : x ≠ p) (ha : X 78 (16 * p + i) = nI x) (hy : y < 4) (hb : X 79 (16 * p + i) = nI y) : ok_G_doNext C (nI p) ∧ ok_X_go X (nI p) 0 ∧ ((f_G_doNext C (nI p) = (0, C) ∧ f_X_go X (nI p) 0 = (0, X)) ∨ ∃ C' X', f_G_doNext C (nI p) = (1, C') ∧ f_X_go X (nI p) 0 = (1, X') ∧ Did n b C X C' X' ln tt sk ag sg tr dl p) := by
  obtain ⟨⟨⟨p1, p2, p3, p4⟩, ⟨l1, l2, l3, l4, l5, l6, l7⟩, _, ⟨t1, t2, t3, t4, t5, t6, t7, t8⟩⟩, n1, n2⟩ := h.1 p hp
  obtain ⟨q2, q3, q4, _⟩ := p4 i hi
  have h75 : X 75 1 = nI i := hs.2.2.1.trans hu
  have h7 : C (2 + 14 * p + 5) 0 = nI i := t4.2.2.1.trans hu
  have hin : vp_in (nI p) 3 := vp_in_nI hp (by decide)
  have hc9 : 3 * p + x < 9 := by omega
  obtain ⟨⟨c1, c2, c3, c4, c5, c6, c7⟩, c8⟩ := h.2.1 (3 * p + x) hc9
  have hsr : C (2 + 14 * p + 5 + 2) x = X 96 x := (t4.2.1 x hx).trans (hs.2.1 x hx).symm
  have hreg : C (2 + 14 * p + 5 + 1) y = X 95 y := (t4.1 y hy).trans (hs.1 y hy).symm
  have eCb : Cb (nI p * 3 + nI x) = 45 + 3 * (3 * p + x) := Cb_nI hp hx
  have ec : 3 * nI p + nI x = nI (3 * p + x) := ch_nI'
  have ec' : (3 * nI p + nI x).toNatClampNeg = 3 * p + x := by rw [ec, nI_clamp (by omega)]
  have hxt : (nI x).toNatClampNeg = x := nI_clamp (by omega)
  have hpt : (nI p).toNatClampNeg = p := nI_clamp (by omega)
  have hfull := fullR (n := 8) c3 c4 c1 (by omega) (by decide)
  have okc : ok_G_channelBetween (nI p) (nI x) := by
    unfold ok_G_channelBetween
    rw [ch_nI]
    exact vp_in_nI hc9 (by decide)
  have hix : vp_in (nI x) 3 := vp_in_nI hx (by decide)
  have hic : vp_in (3 * nI p + nI x) 9 := by rw [ec]; exact vp_in_nI hc9 (by decide)
  obtain ⟨ap1, ap2⟩ := ap (n := 8) (v := C (2 + 14 * p + 5 + 1) y) (o := nI p) c4 (by omega) (by decide) (by decide)
  have em : (8 * (3 * nI p + nI x)) + (X 89 (3 * p + x) - X 89 (3 * p + x) / 8 * 8) = nI (8 * (3 * p + x) + se (3 * p + x) % 8) := by
    rw [ec, c6, show (8 : Int32) = nI 8 from rfl, pk_rem (by omega) (by decide) (by decide), pk_mul, nI_add]
  have e88 : (nI (se (3 * p + x)) - nI (dl (3 * p + x)) = 8) ↔ se (3 * p + x) - dl (3 * p + x) = 8 := by
    rw [pk_sub c1, show (8 : Int32) = nI 8 from rfl]
    exact nI_eq (by omega) (by omega)
  -- what the class needs, what the reference needs
  have okf : ok_G_perform C (nI p) 5 (X 78 (16 * p + i)) (X 79 (16 * p + i)) := by
    refine ⟨hin, ⟨fun h => absurd h (by decide), fun _ => ⟨fun h => absurd h (by decide), fun _ => ⟨fun h => absurd h (by decide), fun _ => ⟨fun h => absurd h (by decide), fun _ => ⟨fun h => absurd h (by decide), fun _ => ⟨fun _ => ?_, fun h => absurd rfl h⟩⟩⟩⟩⟩⟩⟩
    refine ⟨r_in hy hb, ?_⟩
    rw [Mb_nI hp, ha, show (X 79 (16 * p + i)).toNatClampNeg = y from t_of (by omega) hb]
    unfold ok_G_trySend
    rw [eCb, Mb_nI hp, hxt]
    exact ⟨hin, okc, hix, fun _ => ⟨fun _ => ap1, fun _ => trivial⟩, fun _ => trivial⟩
  have okS : ok_X_sends X (nI p) (nI x) (X 95 y) := by
    unfold ok_X_sends
    rw [ec', hxt, em]
    exact ⟨hix, hic, fun _ => ⟨fun _ => trivial, fun _ => vp_in_nI (by omega) (by decide)⟩, fun _ => hin⟩
  have okg : ok_X_go X (nI p) 0 := by
    refine ⟨hin, fun _ => ⟨ix_in hp (by omega) h75, ?_⟩, fun h => absurd (go_lt hp hi p1 h75 p3) h⟩
    rw [ix hp (by omega) h75, e77, show (X 79 (16 * p + i)).toNatClampNeg = y from t_of (by omega) hb, ha]
    exact ⟨fun h => absurd h (by decide), fun _ => ⟨fun h => absurd h (by decide), fun _ => ⟨fun h => absurd h (by decide), fun _ => ⟨fun h => absurd h (by decide), fun _ => ⟨fun h => absurd h (by decide), fun _ => ⟨fun _ => ⟨fun _ => ⟨r_in hy hb, okS, fun _ => trivial, fun _ => hix⟩, fun h => absurd rfl h⟩, fun h => absurd rfl h⟩⟩⟩⟩⟩⟩
  obtain ⟨d1, d2, d3⟩ := dn_go hp hi p1 p2 h7 (q2.trans e77) q3 q4 (okpa_s (by decide)) okf
  have hpf : f_G_perform C (nI p) 5 (X 78 (16 * p + i)) (X 79 (16 * p + i)) = f_G_trySend C (nI p) (nI x) (C (2 + 14 * p + 5 + 1) y) := by
    rw [f_G_perform, if_neg (show ¬ (5 : Int32) = 0 by decide), if_neg (show ¬ (5 : Int32) = 1 by decide), if_neg (show ¬ (5 : Int32) = 2 by decide), if_neg (show ¬ (5 : Int32) = 3 by decide), if_neg (show ¬ (5 : Int32) = 4 by decide), if_pos (show (5 : Int32) = 5 from rfl), Mb_nI hp, ha, show (X 79 (16 * p + i)).toNatClampNeg = y from t_of (by omega) hb]
  rw [hpf] at d2 d3
  rw [pa_s (by decide) (by decide)] at d3
  have hgo : f_X_go X (nI p) 0 = if (f_X_sends X (nI p) (nI x) (X 95 y)).1 = 0 then (0, (f_X_sends X (nI p) (nI x) (X 95 y)).2) else (1, m_X_go_21 X (nI p) 0) := by
    rw [f_X_go, if_pos (go_lt hp hi p1 h75 p3), ix hp (by omega) h75, e77, if_neg (show ¬ (5 : Int32) = 0 by decide), if_neg (show ¬ (5 : Int32) = 1 by decide), if_neg (show ¬ (5 : Int32) = 2 by decide), if_neg (show ¬ (5 : Int32) = 3 by decide), if_neg (show ¬ (5 : Int32) = 4 by decide), if_pos (show (5 : Int32) = 5 from rfl), if_pos (show (0 : Int32) = 0 from rfl), show (X 79 (16 * p + i)).toNatClampNeg = y from t_of (by omega) hb, ha]
  have hm21 : m_X_go_21 X (nI p) 0 = (fun S : Mm => (u2 (u2 (u2 S 96 x (S 96 x + 1)) 75 1 (X 75 1 + 1)) 75 4 ((u2 (u2 S 96 x (S 96 x + 1)) 75 1 (X 75 1 + 1)) 75 4 + 1))) (f_X_sends X (nI p) (nI x) (X 95 y)).2 := by
    unfold m_X_go_21 m_X_go_20 m_X_go_19
    rw [ix hp (by omega) h75, show (X 79 (16 * p + i)).toNatClampNeg = y from t_of (by omega) hb, ha, hxt]
  rw [hm21] at hgo
  have hsend : f_G_trySend C (nI p) (nI x) (C (2 + 14 * p + 5 + 1) y) = if C (45 + 3 * (3 * p + x)) 1 ≤ C (2 + 14 * p + 5 + 2) x then (if f_R_isFull C (45 + 3 * (3 * p + x)) 8 = 0 then (1, m_G_trySend_1 C (nI p) (nI x) (C (2 + 14 * p + 5 + 1) y)) else (0, C)) else (1, m_G_trySend_3 C (nI p) (nI x) (C (2 + 14 * p + 5 + 1) y)) := by
    unfold f_G_trySend
    rw [eCb, Mb_nI hp, hxt]
  have hsends : f_X_sends X (nI p) (nI x) (X 95 y) = if X 89 (3 * p + x) ≤ X 96 x then (if X 89 (3 * p + x) - X 90 (3 * p + x) = 8 then (0, X) else (1, m_X_sends_2 X (nI p) (nI x) (X 95 y))) else (1, m_X_sends_3 X (nI p) (nI x) (X 95 y)) := by
    unfold f_X_sends
    rw [ec', hxt]
  rw [c4, hsr] at hsend
  rw [c5, c6] at hsends
  by_cases hle : nI (se (3 * p + x)) ≤ X 96 x
  · rw [if_pos hle] at hsend hsends
    by_cases hfu : se (3 * p + x) - dl (3 * p + x) = 8
    · -- full: both wait
      rw [if_neg (by rw [hfull, if_neg (by omega)]; decide)] at hsend
      rw [if_pos (e88.mpr hfu)] at hsends
      rw [hsend] at d2
      rw [hsends, if_pos rfl] at hgo
      exact ⟨d1, okg, Or.inl ⟨d2 rfl, hgo⟩⟩
    · -- the message goes into the channel
      rw [if_pos (by rw [hfull, if_pos (by omega)])] at hsend
      rw [if_neg (fun z => hfu (e88.mp z))] at hsends
      rw [hsend] at d3
      dsimp only at d3
      have d3 := d3 (by decide)
      rw [hsends, if_neg (show ¬ ((1 : Int32), m_X_sends_2 X (nI p) (nI x) (X 95 y)).1 = 0 by show ¬ (1 : Int32) = 0; decide)] at hgo
      dsimp only at hgo
      have eS : m_X_sends_2 X (nI p) (nI x) (X 95 y) = u2 (u2 X 91 (8 * (3 * p + x) + se (3 * p + x) % 8) (X 95 y)) 89 (3 * p + x) (nI (se (3 * p + x) + 1)) := by
        unfold m_X_sends_2 m_X_sends_1
        rw [ec', em, nI_clamp (by omega), u2_k (a := 89) (by decide), c6, nI_1]
      have eC : m_G_trySend_1 C (nI p) (nI x) (C (2 + 14 * p + 5 + 1) y) = u2 (u2 (u2 (u2 C (45 + 3 * (3 * p + x)) 1 (nI (se (3 * p + x) + 1))) (45 + 3 * (3 * p + x) + 1) ((se (3 * p + x) + 1) % 8) (C (2 + 14 * p + 5 + 1) y)) (45 + 3 * (3 * p + x) + 2) ((se (3 * p + x) + 1) % 8) (nI p)) (2 + 14 * p + 5 + 2) x (C (2 + 14 * p + 5 + 2) x + 1) := by
        unfold m_G_trySend_1
        rw [eCb, Mb_nI hp, hxt, ap2]
        dsimp only
        rw [u2_k (a := 2 + 14 * p + 5 + 2) (by omega), u2_k (a := 2 + 14 * p + 5 + 2) (by omega), u2_k (a := 2 + 14 * p + 5 + 2) (by omega)]
      rw [eC] at d3
      rw [eS] at hgo
      refine ⟨d1, okg, Or.inr ⟨_, _, d3, hgo, did_send (se' := va_up se (3 * p + x) (se (3 * p + x) + 1)) h hn hp hs hi hu e77 hx ha ?_ ?_ ?_ ?_ ?_ ?_ ?_⟩⟩
      · intro k h1 h2 h3
        rw [u2_k h2, u2_k (by omega), u2_k (by omega), u2_k (by omega)]
      · intro j hj
        rw [u2_k (by omega), u2_k (by omega), u2_k (by omega), u2_k (by omega)]
      · rw [u2_k (by omega), u2_k (by omega), u2_k (by omega), u2_k (by omega), u2_k (by omega), u2_k (by omega)]
        exact (h.1 p hp).1.2.2.1.2.2
      · intro k h1 h2 h3
        rw [u2_k h2, u2_k h3]
      · intro q hq
        rw [u2_k (by omega), u2_k (by omega)]
      · rw [u2_r, u2_k (by omega), u2_k (by omega), u2_k (by omega)]
      · intro c hc
        by_cases e : c = 3 * p + x
        · subst e
          rw [va_up_self]
          refine ⟨⟨by omega, by omega, ?_, ?_, ?_, ?_, ?_⟩, by omega⟩
          · rw [u2_k (by omega), u2_k (by omega), u2_k (by omega), u2_j (by decide)]; exact c3
          · rw [u2_k (by omega), u2_k (by omega), u2_k (by omega), u2_s]
          · rw [u2_k (by decide), u2_k (by decide)]; exact c5
          · rw [u2_s]
          · intro k h1 h2
            rw [u2_k (a := 45 + 3 * (3 * p + x) + 1) (by omega), u2_k (a := 45 + 3 * (3 * p + x) + 1) (by omega), u2_k (a := 91) (by decide)]
            by_cases ek : k = se (3 * p + x)
            · subst ek
              rw [u2_s, u2_s, hreg]
            · rw [u2_j (by omega), u2_j (by omega), u2_k (by omega)]
              exact c7 k h1 (by omega)
        · rw [va_up_ne _ _ e]
          refine ⟨rC_c (h.2.1 c hc).1 ?_ ?_ ?_ ?_ ?_, Nat.le_succ_of_le (h.2.1 c hc).2⟩
          · rw [u2_k (by omega), u2_k (by omega), u2_k (by omega), u2_k (by omega)]
          · rw [u2_k (by omega), u2_k (by omega), u2_k (by omega), u2_k (by omega)]
          · rw [u2_j e, u2_k (by decide)]
          · rw [u2_k (by decide), u2_k (by decide)]
          · intro j hj
            rw [u2_k (by decide), u2_j (by omega)]
  · -- sent before: it is held back
    rw [if_neg hle] at hsend hsends
    rw [hsend] at d3
    dsimp only at d3
    have d3 := d3 (by decide)
    rw [hsends, if_neg (show ¬ ((1 : Int32), m_X_sends_3 X (nI p) (nI x) (X 95 y)).1 = 0 by show ¬ (1 : Int32) = 0; decide)] at hgo
    dsimp only at hgo
    have eS : m_X_sends_3 X (nI p) (nI x) (X 95 y) = u2 X 85 p (X 85 p + 1) := by
      unfold m_X_sends_3
      rw [hpt]
    have eC : m_G_trySend_3 C (nI p) (nI x) (C (2 + 14 * p + 5 + 1) y) = u2 (u2 C (2 + 14 * p) 3 (C (2 + 14 * p) 3 + 1)) (2 + 14 * p + 5 + 2) x (C (2 + 14 * p + 5 + 2) x + 1) := by
      unfold m_G_trySend_3 m_G_trySend_2
      rw [Mb_nI hp, hxt, u2_k (a := 2 + 14 * p + 5 + 2) (by omega)]
    rw [eC] at d3
    rw [eS] at hgo
    refine ⟨d1, okg, Or.inr ⟨_, _, d3, hgo, did_send (se' := se) h hn hp hs hi hu e77 hx ha ?_ ?_ ?_ ?_ ?_ ?_ ?_⟩⟩
    · intro k h1 h2 h3
      rw [u2_k h2, u2_k h1]
    · intro j hj
      rw [u2_k (by omega), u2_j hj]
    · rw [u2_k (by omega), u2_s, u2_s, (h.1 p hp).1.2.2.1.2.2]
    · intro k h1 h2 h3
      rw [u2_k h1]
    · intro q hq
      rw [u2_j hq]
    · rw [u2_r, u2_k (by omega)]
    · intro c hc
      refine ⟨rC_c (h.2.1 c hc).1 ?_ ?_ ?_ ?_ ?_, Nat.le_succ_of_le (h.2.1 c hc).2⟩
      · rw [u2_k (by omega), u2_k (by omega)]
      · rw [u2_k (by omega), u2_k (by omega)]
      · rw [u2_k (by decide)]
      · rw [u2_k (by decide)]
      · intro j hj
        rw [u2_k (by decide)]
end TWO

-- input and deliver: a message into the log
def lC (C : Mm) (p tt : Nat) (v o : Int32) : Mm := u2 (u2 (u2 C (2 + 14 * p + 11) 1 (nI (tt + 1))) (2 + 14 * p + 11 + 1) ((tt + 1) % 20) v) (2 + 14 * p + 11 + 2) ((tt + 1) % 20) o
def lX (X : Mm) (p tt : Nat) (v o : Int32) : Mm := u2 (u2 (u2 X 87 (512 * p + tt) v) 88 (512 * p + tt) o) 86 p (nI (tt + 1))
theorem lC_k {C : Mm} {p tt a : Nat} {v o : Int32} (h1 : a ≠ 2 + 14 * p + 11) (h2 : a ≠ 2 + 14 * p + 11 + 1) (h3 : a ≠ 2 + 14 * p + 11 + 2) : lC C p tt v o a = C a := by
  unfold lC
  rw [u2_k h3, u2_k h2, u2_k h1]
theorem lX_k {X : Mm} {p tt a : Nat} {v o : Int32} (h1 : a ≠ 86) (h2 : a ≠ 87) (h3 : a ≠ 88) : lX X p tt v o a = X a := by
  unfold lX
  rw [u2_k h1, u2_k h3, u2_k h2]
theorem lX_86 {X : Mm} {p tt q : Nat} {v o : Int32} (h : q ≠ p) : lX X p tt v o 86 q = X 86 q := by
  unfold lX
  rw [u2_j h, u2_k (by decide), u2_k (by decide)]
theorem lX_87 {X : Mm} {p tt a : Nat} {v o : Int32} (h : a ≠ 512 * p + tt) : lX X p tt v o 87 a = X 87 a ∧ lX X p tt v o 88 a = X 88 a := by
  unfold lX
  rw [u2_k (a := 87) (by decide), u2_k (a := 87) (by decide), u2_j h, u2_k (a := 88) (by decide), u2_j h, u2_k (a := 88) (by decide)]
  exact ⟨rfl, rfl⟩
theorem lX_new {X : Mm} {p tt : Nat} {v o : Int32} : lX X p tt v o 87 (512 * p + tt) = v ∧ lX X p tt v o 88 (512 * p + tt) = o := by
  unfold lX
  rw [u2_k (a := 87) (by decide), u2_k (a := 87) (by decide), u2_s, u2_k (a := 88) (by decide), u2_s]
  exact ⟨rfl, rfl⟩
theorem la {C X : Mm} {p ln tt sk ag sg : Nat} {tr : Nat → Nat → Int32} {v o : Int32} (h : rQ C X p ln tt sk ag sg tr) (hlt : tt < sk + 20) : rQ (lC C p tt v o) (lX X p tt v o) p ln (tt + 1) sk ag sg tr := by
  obtain ⟨hP, ⟨l1, l2, l3, l4, l5, l6, l7⟩, hF, ⟨t1, t2, t3, t4, t5, ⟨t, ta, tb, tc⟩, t7⟩⟩ := h
  have x77 : ∀ i, i < 16 → lX X p tt v o 77 (16 * p + i) = X 77 (16 * p + i) ∧ lX X p tt v o 78 (16 * p + i) = X 78 (16 * p + i) ∧ lX X p tt v o 79 (16 * p + i) = X 79 (16 * p + i) := fun i _ => by
    rw [lX_k (by decide) (by decide) (by decide), lX_k (by decide) (by decide) (by decide), lX_k (by decide) (by decide) (by decide)]
    exact ⟨rfl, rfl, rfl⟩
  refine ⟨rP_c hP (fun j h1 h2 => lC_k (by omega) (by omega) (by omega)) (by rw [lX_k (by decide) (by decide) (by decide)]) x77, ⟨by omega, by omega, ?_, ?_, ?_, ?_, ?_⟩, ?_, ⟨t1, ?_, t3, ?_, ?_, ⟨t, ta, tb, by omega⟩, t7⟩⟩
  · unfold lC
    rw [u2_k (by omega), u2_k (by omega), u2_j (by decide)]; exact l3
  · unfold lC
    rw [u2_k (by omega), u2_k (by omega), u2_s]
  · rw [lX_k (by decide) (by decide) (by decide)]; exact l5
  · unfold lX
    rw [u2_s]
  · intro i h1 h2
    by_cases e : i = tt
    · subst e
      rw [lX_new.1, lX_new.2]
      unfold lC
      rw [u2_k (a := 2 + 14 * p + 12) (k := 2 + 14 * p + 11 + 2) (by omega), show 2 + 14 * p + 12 = 2 + 14 * p + 11 + 1 from rfl, show 2 + 14 * p + 13 = 2 + 14 * p + 11 + 2 from rfl, u2_s, u2_s]
      exact ⟨rfl, rfl⟩
    · obtain ⟨x1, x2⟩ := lX_87 (X := X) (p := p) (tt := tt) (v := v) (o := o) (a := 512 * p + i) (by omega)
      rw [x1, x2]
      unfold lC
      rw [u2_k (a := 2 + 14 * p + 12) (k := 2 + 14 * p + 11 + 2) (by omega), show 2 + 14 * p + 12 = 2 + 14 * p + 11 + 1 from rfl, show 2 + 14 * p + 13 = 2 + 14 * p + 11 + 2 from rfl, u2_j (k := 2 + 14 * p + 11 + 1) (by omega), u2_j (k := 2 + 14 * p + 11 + 2) (by omega), u2_k (a := 2 + 14 * p + 11 + 1) (by omega), u2_k (a := 2 + 14 * p + 11 + 2) (by omega), u2_k (a := 2 + 14 * p + 11 + 2) (by omega)]
      exact l7 i h1 (by omega)
  · unfold rF
    rw [lC_k (by omega) (by omega) (by omega), lX_k (by decide) (by decide) (by decide), lX_k (by decide) (by decide) (by decide), lX_k (by decide) (by decide) (by decide)]
    exact hF
  · intro j hj
    exact stp_x hP.1 (Nat.le_succ _) (fun i hi => x77 i (by have := hP.1; omega)) (fun i hi => lX_87 (by omega)) (t2 j hj)
  · exact vst_c t4 (lC_k (by omega) (by omega) (by omega)) (lC_k (by omega) (by omega) (by omega)) (lC_k (by omega) (by omega) (by omega))
  · exact vst_c t5 (lC_k (by omega) (by omega) (by omega)) (lC_k (by omega) (by omega) (by omega)) (lC_k (by omega) (by omega) (by omega))
theorem apX {X : Mm} {p tt : Nat} {v o : Int32} (hp : p < 3) (h : X 86 p = nI tt) (ht : tt < 512) : ok_X_append X (nI p) v o ∧ f_X_append X (nI p) v o = (nI (tt + 1), lX X p tt v o) := by
  have hcl : (nI p).toNatClampNeg = p := nI_clamp (by omega)
  have e5 : (512 * nI p) + nI tt = nI (512 * p + tt) := by rw [show (512 : Int32) = nI 512 from rfl, pk_mul, nI_add]
  have e1 : m_X_append_1 X (nI p) v o = u2 X 87 (512 * p + tt) v := by
    unfold m_X_append_1
    rw [hcl, h, e5, nI_clamp (by omega)]
  have e3 : m_X_append_3 X (nI p) v o = lX X p tt v o := by
    unfold m_X_append_3 m_X_append_2 lX
    rw [e1, hcl, u2_k (a := 86) (k := 87) (by decide), h, e5, nI_clamp (by omega), u2_k (a := 86) (k := 88) (by decide), u2_k (a := 86) (k := 87) (by decide), h, nI_1]
  refine ⟨?_, ?_⟩
  · unfold ok_X_append
    rw [e1, hcl, u2_k (a := 86) (k := 87) (by decide), h, e5]
    exact ⟨pin hp, vp_in_nI (by omega) (by decide), vp_in_nI (by omega) (by decide)⟩
  · unfold f_X_append
    rw [e3, hcl]
    congr 1
    unfold lX
    rw [u2_s]
theorem kept_20 {X : Mm} {p tt sk : Nat} (hp : p < 3) (h83 : X 83 p = nI sk) (h86 : X 86 p = nI tt) (h1 : sk ≤ tt) (h2 : tt ≤ sk + 20) (ht : tt ≤ 512) : (f_X_kept0 X (nI p) = 20) ↔ ¬ tt < sk + 20 := by
  unfold f_X_kept0
  rw [nI_clamp (by omega), h83, h86, pk_sub h1, show (20 : Int32) = nI 20 from rfl, nI_eq (by omega) (by omega)]
  omega
section SI
variable {k : Nat} {C X : Mm} {x y : Int32}
/-- the rest of the relation around a longer log -/
theorem Rel_log {C X : Mm} {ln tt sk ag sg : Nat → Nat} {tr : Nat → Nat → Nat → Int32} {dl se dl' : Nat → Nat} {no p : Nat} {v o : Int32} {C1 X1 : Mm} (h : Core k (100 * k) C X ln tt sk ag sg tr dl se no) (hr : ∀ q, q < 3 → rA X q (ag q) (sg q) ∧ rB C X q (ag q)) (hk : k < 512) (hp : p < 3) (hlt : tt p < sk p + 20) (hC1 : ∀ a, a < 45 → C1 a = C a) (hC2 : ∀ a, 72 ≤ a → C1 a = C a) (hX1 : ∀ a, a ≠ 90 → X1 a = X a) (hch : ∀ c, c < 9 → rC C1 X1 c (dl' c) (se c)) : Rel (k + 1) (lC C1 p (tt p) v o) (lX X1 p (tt p) v o) := by
  have hQ : ∀ q, q < 3 → rQ C1 X1 q (ln q) (tt q) (sk q) (ag q) (sg q) (tr q) := fun q hq => rQ_c (h.1 q hq).1 (fun a h1 h2 => hC1 a (by omega)) (by
    unfold xeq
    rw [hX1 76 (by decide), hX1 77 (by decide), hX1 78 (by decide), hX1 79 (by decide), hX1 80 (by decide), hX1 83 (by decide), hX1 85 (by decide), hX1 86 (by decide), hX1 87 (by decide), hX1 88 (by decide), hX1 94 (by decide)]
    exact xeq_rfl)
  have hO : rO C1 X1 no := out_c h.2.2 (fun a h1 h2 => hC2 a h1) (by rw [hX1 75 (by decide)]) (hX1 92 (by decide)) (hX1 93 (by decide))
  have hc : Core k (100 * k) C1 X1 ln tt sk ag sg tr dl' se no := ⟨fun q hq => ⟨hQ q hq, (h.1 q hq).2⟩, fun c h9 => ⟨hch c h9, (h.2.1 c h9).2⟩, hO⟩
  have hr1 : ∀ q, q < 3 → rA X1 q (ag q) (sg q) ∧ rB C1 X1 q (ag q) := fun q hq => by
    unfold rA rB
    rw [hX1 81 (by decide), hX1 82 (by decide), hX1 84 (by decide), hC1 _ (by omega)]
    exact hr q hq
  refine Rel_one (p := p) (ln' := ln p) (tt' := tt p + 1) (sk' := sk p) (ag' := ag p) (sg' := sg p) (tr' := tr p) hc hr1 (fun q hq hne a h1 h2 => lC_k (by omega) (by omega) (by omega)) ?_ ?_ (la (hQ p hp) hlt) (by have := (h.1 p hp).2.1; omega) (by have := (h.1 p hp).2.2; omega) ?_ ?_ (chs_s hc (fun a h1 h2 => lC_k (by omega) (by omega) (by omega)) (lX_k (by decide) (by decide) (by decide)) (lX_k (by decide) (by decide) (by decide)) (lX_k (by decide) (by decide) (by decide))) (out_c hO (fun a h1 h2 => lC_k (by omega) (by omega) (by omega)) (by rw [lX_k (by decide) (by decide) (by decide)]) (lX_k (by decide) (by decide) (by decide)) (lX_k (by decide) (by decide) (by decide)))
  · intro q hq hne
    have ht := (h.1 q hq).2.1
    unfold xeq
    rw [lX_86 hne, lX_k (a := 76) (by decide) (by decide) (by decide), lX_k (a := 77) (by decide) (by decide) (by decide), lX_k (a := 78) (by decide) (by decide) (by decide), lX_k (a := 79) (by decide) (by decide) (by decide), lX_k (a := 80) (by decide) (by decide) (by decide), lX_k (a := 83) (by decide) (by decide) (by decide), lX_k (a := 85) (by decide) (by decide) (by decide), lX_k (a := 94) (by decide) (by decide) (by decide)]
    refine ⟨rfl, rfl, rfl, rfl, rfl, rfl, fun _ _ => ⟨rfl, rfl, rfl⟩, fun i hi => lX_87 ?_⟩
    have h2 := (h.1 p hp).2.1
    omega
  · intro q hq hne
    rw [lX_k (a := 81) (by decide) (by decide) (by decide), lX_k (a := 82) (by decide) (by decide) (by decide), lX_k (a := 84) (by decide) (by decide) (by decide)]
    exact ⟨rfl, rfl, rfl⟩
  · unfold rA
    rw [lX_k (by decide) (by decide) (by decide), lX_k (by decide) (by decide) (by decide)]
    exact (hr1 p hp).1
  · unfold rB
    rw [lC_k (by omega) (by omega) (by omega), lX_k (by decide) (by decide) (by decide)]
    exact (hr1 p hp).2
theorem sim_input (hk : k < 512) : Sim k (fun C => ok_G_input C x y) (fun X => ok_X_input X x y) (fun C => f_G_input C x y) (fun X => f_X_input X x y) := by
  intro C X h
  dsimp only
  unfold ok_G_input ok_X_input f_G_input f_X_input
  rcases ip_cases x with ⟨e1, e2⟩ | ⟨p, hp, rfl, e1, e2⟩
  · rw [if_pos e1, if_pos e2]
    exact same h ⟨fun _ => trivial, fun z => absurd e1 z⟩ ⟨fun _ => trivial, fun z => absurd e2 z⟩
  · rw [if_neg (ne1 e1), if_neg (ne1 e2)]
    obtain ⟨ln, tt, sk, ag, sg, tr, dl, se, no, hc, hr⟩ := id h
    obtain ⟨⟨hP, ⟨l1, l2, l3, l4, l5, l6, l7⟩, hF, hT⟩, n1, n2⟩ := hc.1 p hp
    obtain ⟨a1, a2⟩ := ap (C := C) (r := 2 + 14 * p + 11) (n := 20) (v := y) (o := 3) l4 (by omega) (by decide) (by decide)
    obtain ⟨b1, b2⟩ := apX (X := X) (v := y) (o := 3) hp l6 (by omega)
    have hfull := fullR (n := 20) l3 l4 l1 (by omega) (by decide)
    have h20 := kept_20 hp l5 l6 l1 l2 (by omega)
    rw [Mb_nI hp]
    have okg : (f_G_isProcess (nI p) = 0 → True) ∧ (¬ f_G_isProcess (nI p) = 0 → vp_in (nI p) 3 ∧ ((C (2 + 14 * p) 0 = 0 → True) ∧ (¬ C (2 + 14 * p) 0 = 0 → (f_R_isFull C (2 + 14 * p + 11) 20 = 0 → ok_R_append C (2 + 14 * p + 11) 20 y 3) ∧ (¬ f_R_isFull C (2 + 14 * p + 11) 20 = 0 → True)))) := ⟨fun _ => trivial, fun _ => ⟨pin hp, fun _ => trivial, fun _ => ⟨fun _ => a1, fun _ => trivial⟩⟩⟩
    have okx : (f_X_isProcess (nI p) = 0 → True) ∧ (¬ f_X_isProcess (nI p) = 0 → vp_in (nI p) 3 ∧ ((X 80 (nI p).toNatClampNeg = 0 → ok_X_kept0 (nI p) ∧ ((f_X_kept0 X (nI p) = 20 → True) ∧ (¬ f_X_kept0 X (nI p) = 20 → ok_X_append X (nI p) y 3))) ∧ (¬ X 80 (nI p).toNatClampNeg = 0 → True))) := ⟨fun _ => trivial, fun _ => ⟨pin hp, fun _ => ⟨pin hp, fun _ => trivial, fun _ => b1⟩, fun _ => trivial⟩⟩
    rcases up_cases hp hF with ⟨d1, d2⟩ | ⟨d1, d2⟩
    · rw [Mb_nI hp] at d1
      rw [if_neg (ne1 d1), if_pos d2]
      by_cases hlt : tt p < sk p + 20
      · rw [if_pos (by rw [hfull, if_pos (by omega)]), if_neg (fun z => h20.mp z hlt), a2, b2]
        refine made okg okx ?_ (fun a ha => lC_k (by omega) (by omega) (by omega)) (fun a ha => lX_k (by omega) (by omega) (by omega))
        exact Rel_log (dl' := dl) hc hr hk hp hlt (fun _ _ => rfl) (fun _ _ => rfl) (fun _ _ => rfl) (fun c h9 => (hc.2.1 c h9).1)
      · rw [if_neg (by rw [hfull, if_neg (by omega)]; decide), if_pos (h20.mpr hlt)]
        exact same h okg okx
    · rw [Mb_nI hp] at d1
      rw [if_pos d1, if_neg (ne1 d2)]
      exact same h okg okx
theorem sim_deliver (hk : k < 512) : Sim k (fun C => ok_G_deliver C x y) (fun X => ok_X_deliver X x y) (fun C => f_G_deliver C x y) (fun X => f_X_deliver X x y) := by
  intro C X h
  dsimp only
  unfold ok_G_deliver ok_X_deliver f_G_deliver f_X_deliver
  rcases ic_cases x y with ⟨e1, e2⟩ | ⟨p, q, hp, hq, hpq, rfl, rfl, e1, e2⟩
  · rw [if_pos e1, if_pos e2]
    exact same h ⟨fun _ => trivial, fun z => absurd e1 z⟩ ⟨fun _ => trivial, fun z => absurd e2 z⟩
  · rw [if_neg (ne1 e1), if_neg (ne1 e2)]
    obtain ⟨ln, tt, sk, ag, sg, tr, dl, se, no, hc, hr⟩ := id h
    obtain ⟨⟨hP, ⟨l1, l2, l3, l4, l5, l6, l7⟩, hF, hT⟩, n1, n2⟩ := hc.1 q hq
    have hc9 : 3 * p + q < 9 := by omega
    obtain ⟨⟨c1, c2, c3, c4, c5, c6, c7⟩, c8⟩ := hc.2.1 (3 * p + q) hc9
    have hfull := fullR (n := 20) l3 l4 l1 (by omega) (by decide)
    have h20 := kept_20 hq l5 l6 l1 l2 (by omega)
    have hcnt : (f_R_count C (45 + 3 * (3 * p + q)) 8 = 0) ↔ dl (3 * p + q) = se (3 * p + q) := by
      unfold f_R_count
      rw [c3, c4, pk_sub c1, show (0 : Int32) = nI 0 from rfl, nI_eq (by omega) (by omega)]
      omega
    have hcx : (X 90 (3 * p + q) = X 89 (3 * p + q)) ↔ dl (3 * p + q) = se (3 * p + q) := by
      rw [c5, c6]
      exact nI_eq (by omega) (by omega)
    have em : (8 * (3 * nI p + nI q)) + (X 90 (3 * p + q) - X 90 (3 * p + q) / 8 * 8) = nI (8 * (3 * p + q) + dl (3 * p + q) % 8) := by
      rw [ch_nI', c5, show (8 : Int32) = nI 8 from rfl, pk_rem (by omega) (by decide) (by decide), pk_mul, nI_add]
    have ec' : (3 * nI p + nI q).toNatClampNeg = 3 * p + q := by rw [ch_nI', nI_clamp (by omega)]
    have hic : vp_in (3 * nI p + nI q) 9 := by rw [ch_nI']; exact vp_in_nI hc9 (by decide)
    have okc : ok_G_channelBetween (nI p) (nI q) := by unfold ok_G_channelBetween; rw [ch_nI]; exact vp_in_nI hc9 (by decide)
    have mX : m_X_deliver_1 X (nI p) (nI q) = u2 X 90 (3 * p + q) (nI (dl (3 * p + q) + 1)) := by
      unfold m_X_deliver_1
      rw [ec', c5, nI_1]
    have mC : (f_R_dropThrough C (45 + 3 * (3 * p + q)) 8 (C (45 + 3 * (3 * p + q)) 0 + 1)).2 = u2 C (45 + 3 * (3 * p + q)) 0 (nI (dl (3 * p + q) + 1)) := by
      unfold f_R_dropThrough m_R_dropThrough_1
      rw [c3, nI_1]
    have hv : ∀ z, f_R_valueAt z (45 + 3 * (3 * p + q)) 8 (C (45 + 3 * (3 * p + q)) 0 + 1) = z (45 + 3 * (3 * p + q) + 1) ((dl (3 * p + q) + 1) % 8) := fun z => by
      unfold f_R_valueAt
      rw [c3, nI_1, slot_tn (by omega) (by decide) (by decide)]
    have okv : ok_R_valueAt (45 + 3 * (3 * p + q)) 8 (C (45 + 3 * (3 * p + q)) 0 + 1) := by
      unfold ok_R_valueAt
      rw [c3, nI_1]
      exact oks_nI (by omega) (by decide) (by decide)
    rw [Mb_nI hq, Cb_nI hp hq, mC, hv, ec', em, nI_clamp (show 8 * (3 * p + q) + dl (3 * p + q) % 8 < 2 ^ 31 by omega), mX]
    obtain ⟨a1, a2⟩ := ap (C := u2 C (45 + 3 * (3 * p + q)) 0 (nI (dl (3 * p + q) + 1))) (r := 2 + 14 * q + 11) (n := 20) (v := C (45 + 3 * (3 * p + q) + 1) ((dl (3 * p + q) + 1) % 8)) (o := nI p) (by rw [u2_k (by omega)]; exact l4) (by omega) (by decide) (by decide)
    obtain ⟨b1, b2⟩ := apX (X := u2 X 90 (3 * p + q) (nI (dl (3 * p + q) + 1))) (v := X 91 (8 * (3 * p + q) + dl (3 * p + q) % 8)) (o := nI p) hq (by rw [u2_k (by decide)]; exact l6) (by omega)
    have okg : (f_G_isChannel (nI p) (nI q) = 0 → True) ∧ (¬ f_G_isChannel (nI p) (nI q) = 0 → vp_in (nI q) 3 ∧ (ok_G_channelBetween (nI p) (nI q) ∧ ((C (2 + 14 * q) 0 = 0 → True) ∧ (¬ C (2 + 14 * q) 0 = 0 → (f_R_count C (45 + 3 * (3 * p + q)) 8 = 0 → True) ∧ (¬ f_R_count C (45 + 3 * (3 * p + q)) 8 = 0 → (f_R_isFull C (2 + 14 * q + 11) 20 = 0 → ok_R_valueAt (45 + 3 * (3 * p + q)) 8 (C (45 + 3 * (3 * p + q)) 0 + 1) ∧ ok_R_append (u2 C (45 + 3 * (3 * p + q)) 0 (nI (dl (3 * p + q) + 1))) (2 + 14 * q + 11) 20 (C (45 + 3 * (3 * p + q) + 1) ((dl (3 * p + q) + 1) % 8)) (nI p)) ∧ (¬ f_R_isFull C (2 + 14 * q + 11) 20 = 0 → True)))))) := ⟨fun _ => trivial, fun _ => ⟨pin hq, okc, fun _ => trivial, fun _ => ⟨fun _ => trivial, fun _ => ⟨fun _ => ⟨okv, a1⟩, fun _ => trivial⟩⟩⟩⟩
    have okx : (f_X_isChannel (nI p) (nI q) = 0 → True) ∧ (¬ f_X_isChannel (nI p) (nI q) = 0 → vp_in (nI q) 3 ∧ ((X 80 (nI q).toNatClampNeg = 0 → vp_in (3 * nI p + nI q) 9 ∧ ((X 90 (3 * p + q) = X 89 (3 * p + q) → True) ∧ (¬ X 90 (3 * p + q) = X 89 (3 * p + q) → ok_X_kept0 (nI q) ∧ ((f_X_kept0 X (nI q) = 20 → True) ∧ (¬ f_X_kept0 X (nI q) = 20 → vp_in (nI (8 * (3 * p + q) + dl (3 * p + q) % 8)) 72 ∧ ok_X_append (u2 X 90 (3 * p + q) (nI (dl (3 * p + q) + 1))) (nI q) (X 91 (8 * (3 * p + q) + dl (3 * p + q) % 8)) (nI p)))))) ∧ (¬ X 80 (nI q).toNatClampNeg = 0 → True))) := ⟨fun _ => trivial, fun _ => ⟨pin hq, fun _ => ⟨hic, fun _ => trivial, fun _ => ⟨pin hq, fun _ => trivial, fun _ => ⟨vp_in_nI (by omega) (by decide), b1⟩⟩⟩, fun _ => trivial⟩⟩
    rcases up_cases hq hF with ⟨d1, d2⟩ | ⟨d1, d2⟩
    · rw [Mb_nI hq] at d1
      rw [if_neg (ne1 d1), if_pos d2]
      by_cases hem : dl (3 * p + q) = se (3 * p + q)
      · rw [if_pos (hcnt.mpr hem), if_pos (hcx.mpr hem)]
        exact same h okg okx
      · rw [if_neg (fun z => hem (hcnt.mp z)), if_neg (fun z => hem (hcx.mp z))]
        by_cases hlt : tt q < sk q + 20
        · rw [if_pos (by rw [hfull, if_pos (by omega)]), if_neg (fun z => h20.mp z hlt), a2, b2, c7 (dl (3 * p + q)) (Nat.le_refl _) (by omega)]
          rw [c7 (dl (3 * p + q)) (Nat.le_refl _) (by omega)] at okg
          refine made okg okx ?_ (fun a ha => (lC_k (by omega) (by omega) (by omega)).trans (u2_k (by omega))) (fun a ha => (lX_k (by omega) (by omega) (by omega)).trans (u2_k (by omega)))
          refine Rel_log (dl' := va_up dl (3 * p + q) (dl (3 * p + q) + 1)) hc hr hk hq hlt (fun a ha => u2_k (by omega)) (fun a ha => u2_k (by omega)) (fun a ha => u2_k ha) (fun c h9 => ?_)
          by_cases e : c = 3 * p + q
          · subst e
            rw [va_up_self]
            refine ⟨by omega, by omega, u2_s, ?_, u2_s, ?_, fun i h1 h2 => ?_⟩
            · rw [u2_j (by decide)]; exact c4
            · rw [u2_k (by decide)]; exact c6
            · rw [u2_k (by omega), u2_k (a := 91) (by decide)]
              exact c7 i (by omega) h2
          · rw [va_up_ne _ _ e]
            exact rC_c (hc.2.1 c h9).1 (u2_k (by omega)) (u2_k (by omega)) (by rw [u2_k (by decide)]) (by rw [u2_j e]) (fun i _ => by rw [u2_k (by decide)])
        · rw [if_neg (by rw [hfull, if_neg (by omega)]; decide), if_pos (h20.mpr hlt)]
          exact same h okg okx
    · rw [Mb_nI hq] at d1
      rw [if_pos d1, if_neg (ne1 d2)]
      exact same h okg okx
end SI

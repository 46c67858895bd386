-- ONE STEP of a process: what changes in the relation
def dfin (C1 : Mm) (k : Nat) (nx : Int32) : Mm := u2 (u2 (u2 C1 (k + 5) 0 nx) (k + 5) 1 ((u2 C1 (k + 5) 0 nx) (k + 5) 1 + 1)) k 1 1
theorem dfin_k {C1 : Mm} {k a : Nat} {nx : Int32} (h1 : a ≠ k) (h2 : a ≠ k + 5) : dfin C1 k nx a = C1 a := by
  unfold dfin
  rw [u2_k h1, u2_k h2, u2_k h2]
theorem dfin_m {C1 : Mm} {k j : Nat} {nx : Int32} (h : j ≠ 1) : dfin C1 k nx k j = C1 k j := by
  unfold dfin
  rw [u2_j h, u2_k (by omega), u2_k (by omega)]
theorem dfin_1 {C1 : Mm} {k : Nat} {nx : Int32} : dfin C1 k nx k 1 = 1 := u2_s
theorem dfin_v {C1 : Mm} {k : Nat} {nx : Int32} {v : Nat → Int32} (h : st3 (C1 (k + 5 + 1)) (C1 (k + 5 + 2)) nx (C1 (k + 5) 1 + 1) (C1 (k + 5) 2) (C1 (k + 5) 3) v) : vst (dfin C1 k nx) (k + 5) v := by
  rw [vst_iff, dfin_k (by omega) (by omega), dfin_k (by omega) (by omega)]
  unfold dfin
  rw [u2_k (a := k + 5) (k := k) (by omega), u2_j (b := 0) (by decide), u2_s, u2_s, u2_j (b := 1) (by decide), u2_j (b := 2) (by decide), u2_j (b := 2) (by decide), u2_j (b := 3) (by decide), u2_j (b := 3) (by decide)]
  exact h
theorem push {n b : Nat} {C X C' X' : Mm} {ln tt sk ag sg : Nat → Nat} {tr : Nat → Nat → Nat → Int32} {dl se se' : Nat → Nat} {no no' p : Nat} {v : Nat → Int32} (h : Core n b C X ln tt sk ag sg tr dl se no) (hp : p < 3)
    (hC : ∀ k, k < 44 → k ≠ 2 + 14 * p → k ≠ 2 + 14 * p + 5 → k ≠ 2 + 14 * p + 5 + 1 → k ≠ 2 + 14 * p + 5 + 2 → C' k = C k) (hC0 : C' (2 + 14 * p) 0 = C (2 + 14 * p) 0)
    (hX : ∀ k, (k = 76 ∨ k = 77 ∨ k = 78 ∨ k = 79 ∨ k = 80 ∨ k = 83 ∨ k = 86 ∨ k = 87 ∨ k = 88) → X' k = X k) (hX5 : ∀ q, q ≠ p → X' 85 q = X 85 q ∧ X' 94 q = X 94 q)
    (hF2 : C' (2 + 14 * p) 2 = X' 94 p) (hF3 : C' (2 + 14 * p) 3 = X' 85 p)
    (hs : stp X p (ln p) (tt p) (tr p (ag p)) v) (hv : vst C' (2 + 14 * p + 5) v) (h9 : ∃ t, v 9 = nI t ∧ sk p ≤ t ∧ t ≤ tt p) (h7 : ∃ i, i ≤ 17 ∧ v 7 = nI i)
    (hc : ∀ c, c < 9 → rC C' X' c (dl c) (se' c) ∧ se' c ≤ b + 1) (ho : rO C' X' no') :
    Core n (b + 1) C' X' ln tt sk (va_up ag p (ag p + 1)) sg (va_up tr p (va_up (tr p) (ag p + 1) v)) dl se' no' := by
  have xq (q : Nat) (hq : q ≠ p) : xeq X X' q (tt q) := by
    unfold xeq
    rw [hX 76 (by omega), hX 77 (by omega), hX 78 (by omega), hX 79 (by omega), hX 80 (by omega), hX 83 (by omega), hX 86 (by omega), hX 87 (by omega), hX 88 (by omega)]
    exact ⟨rfl, rfl, rfl, (hX5 q hq).1, rfl, (hX5 q hq).2, fun _ _ => ⟨rfl, rfl, rfl⟩, fun _ _ => ⟨rfl, rfl⟩⟩
  refine ⟨fun q hq => ?_, hc, ho⟩
  by_cases e : q = p
  · subst e
    obtain ⟨⟨⟨p1, p2, p3, p4⟩, ⟨l1, l2, l3, l4, l5, l6, l7⟩, ⟨f1, f2, f3⟩, ⟨t1, t2, t3, t4, t5, t6, t7, t8, t9⟩⟩, n1, n2⟩ := h.1 q hq
    rw [va_up_self, va_up_self]
    refine ⟨⟨⟨p1, ?_, ?_, ?_⟩, ⟨l1, l2, ?_, ?_, ?_, ?_, ?_⟩, ⟨?_, hF2, hF3⟩, ⟨?_, ?_, by omega, ?_, ?_, ?_, ?_, ?_, ?_⟩⟩, n1, by omega⟩
    · rw [hC _ (by omega) (by omega) (by omega) (by omega) (by omega)]; exact p2
    · rw [hX 76 (by omega)]; exact p3
    · rw [hX 77 (by omega), hX 78 (by omega), hX 79 (by omega), hC (2 + 14 * q + 2) (by omega) (by omega) (by omega) (by omega) (by omega), hC (2 + 14 * q + 3) (by omega) (by omega) (by omega) (by omega) (by omega), hC (2 + 14 * q + 4) (by omega) (by omega) (by omega) (by omega) (by omega)]
      exact p4
    · rw [hC _ (by omega) (by omega) (by omega) (by omega) (by omega)]; exact l3
    · rw [hC _ (by omega) (by omega) (by omega) (by omega) (by omega)]; exact l4
    · rw [hX 83 (by omega)]; exact l5
    · rw [hX 86 (by omega)]; exact l6
    · rw [hX 87 (by omega), hX 88 (by omega), hC (2 + 14 * q + 12) (by omega) (by omega) (by omega) (by omega) (by omega), hC (2 + 14 * q + 13) (by omega) (by omega) (by omega) (by omega) (by omega)]
      exact l7
    · rw [hC0, hX 80 (by omega)]; exact f1
    · intro j
      rw [va_up_ne _ _ (by omega)]
      exact t1 j
    · intro k hk
      have hx : ∀ w z, stp X q (ln q) (tt q) w z → stp X' q (ln q) (tt q) w z := fun w z hz => stp_x p1 (Nat.le_refl _) (fun i _ => by rw [hX 77 (by omega), hX 78 (by omega), hX 79 (by omega)]; exact ⟨rfl, rfl, rfl⟩) (fun i _ => by rw [hX 87 (by omega), hX 88 (by omega)]; exact ⟨rfl, rfl⟩) hz
      by_cases ek : k = ag q
      · subst ek
        rw [va_up_ne _ _ (by omega), va_up_self]
        exact hx _ _ hs
      · rw [va_up_ne _ _ (by omega), va_up_ne _ _ (by omega)]
        exact hx _ _ (t2 k (by omega))
    · rw [va_up_self]
      exact hv
    · rw [va_up_ne _ _ (by omega)]
      exact vst_c t5 (hC _ (by omega) (by omega) (by omega) (by omega) (by omega)) (hC _ (by omega) (by omega) (by omega) (by omega) (by omega)) (hC _ (by omega) (by omega) (by omega) (by omega) (by omega))
    · rw [va_up_self]
      exact h9
    · rw [va_up_ne _ _ (by omega)]
      exact t7
    · rw [va_up_self]
      exact h7
    · rw [va_up_ne _ _ (by omega)]
      exact t9
  · obtain ⟨hq1, n1, n2⟩ := h.1 q hq
    rw [va_up_ne _ _ e, va_up_ne _ _ e]
    exact ⟨rQ_c hq1 (fun k h1 h2 => hC k (by omega) (by omega) (by omega) (by omega) (by omega)) (xq q e), n1, by omega⟩
/-- channels and outputs that nobody touches -/
theorem chs_c {n b : Nat} {C X C' X' : Mm} {ln tt sk ag sg : Nat → Nat} {tr : Nat → Nat → Nat → Int32} {dl se : Nat → Nat} {no : Nat} (h : Core n b C X ln tt sk ag sg tr dl se no) (hC : ∀ k, 45 ≤ k → k < 72 → C' k = C k) (h89 : X' 89 = X 89) (h90 : X' 90 = X 90) (h91 : X' 91 = X 91) : ∀ c, c < 9 → rC C' X' c (dl c) (se c) ∧ se c ≤ b + 1 := by
  intro c hc
  exact ⟨rC_c (h.2.1 c hc).1 (hC _ (by omega) (by omega)) (hC _ (by omega) (by omega)) (by rw [h89]) (by rw [h90]) (by rw [h91]; exact fun _ _ => rfl), Nat.le_succ_of_le (h.2.1 c hc).2⟩
theorem out_c {C X C' X' : Mm} {no : Nat} (h : rO C X no) (hC : ∀ k, 72 ≤ k → k < 75 → C' k = C k) (h75 : X' 75 0 = X 75 0) (h92 : X' 92 = X 92) (h93 : X' 93 = X 93) : rO C' X' no :=
  rO_c h (hC _ (by omega) (by omega)) (hC _ (by omega) (by omega)) (hC _ (by omega) (by omega)) h75 (by rw [h92, h93]; exact fun _ _ => ⟨rfl, rfl⟩)
-- the class's doNext(), up to what the instruction does
section DN
variable {C : Mm} {p ln i : Nat}
theorem has_t (hi : i < ln) (hln : ln ≤ 16) {k : Nat} (hl : C k 0 = nI ln) : f_P_has C k (nI i) = 1 := by
  unfold f_P_has
  rw [if_neg (nI_pos (by omega)), hl, if_neg (nI_ge hi (by omega))]
theorem has_f (hi : ln ≤ i) (hi2 : i ≤ 17) {k : Nat} (hl : C k 0 = nI ln) : f_P_has C k (nI i) = 0 := by
  unfold f_P_has
  rw [if_neg (nI_pos (by omega)), hl, if_pos (nI_le hi (by omega))]
theorem dn_end (hp : p < 3) (hi : ln ≤ i) (hi2 : i ≤ 17) (hl : C (2 + 14 * p + 1) 0 = nI ln) (h7 : C (2 + 14 * p + 5) 0 = nI i) : ok_G_doNext C (nI p) ∧ f_G_doNext C (nI p) = (2, C) := by
  unfold ok_G_doNext f_G_doNext
  rw [Mb_nI hp, h7, has_f hi hi2 hl, if_pos rfl]
  exact ⟨⟨vp_in_nI hp (by decide), fun _ => trivial, fun h => absurd rfl h⟩, rfl⟩
theorem dn_go (hp : p < 3) (hi : i < ln) (hln : ln ≤ 16) (hl : C (2 + 14 * p + 1) 0 = nI ln) (h7 : C (2 + 14 * p + 5) 0 = nI i) {op a b : Int32} (h2 : C (2 + 14 * p + 2) i = op) (h3 : C (2 + 14 * p + 3) i = a) (h4 : C (2 + 14 * p + 4) i = b) (o1 : ok_G_placeAfter (2 + 14 * p + 5) op a b) (o2 : ok_G_perform C (nI p) op a b) : ok_G_doNext C (nI p) ∧ ((f_G_perform C (nI p) op a b).1 = 0 → f_G_doNext C (nI p) = (0, (f_G_perform C (nI p) op a b).2)) ∧ (¬ (f_G_perform C (nI p) op a b).1 = 0 → f_G_doNext C (nI p) = (1, dfin (f_G_perform C (nI p) op a b).2 (2 + 14 * p) (f_G_placeAfter C (2 + 14 * p + 5) op a b))) := by
  have hn : ¬ (1 : Int32) = 0 := by decide
  have e : (nI i).toNatClampNeg = i := nI_clamp (by omega)
  have m : m_G_doNext_3 C (nI p) = dfin (f_G_perform C (nI p) op a b).2 (2 + 14 * p) (f_G_placeAfter C (2 + 14 * p + 5) op a b) := by
    unfold m_G_doNext_3 m_G_doNext_2 m_G_doNext_1 dfin
    rw [Mb_nI hp, h7, e, h2, h3, h4]
  unfold ok_G_doNext f_G_doNext
  rw [m, Mb_nI hp, h7, has_t hi hln hl, if_neg hn, e, h2, h3, h4]
  refine ⟨⟨vp_in_nI hp (by decide), fun h => absurd h hn, fun _ => ⟨vp_in_nI (by omega) (by decide), o1, o2⟩⟩, fun h => ?_, fun h => ?_⟩
  · rw [if_pos h]
  · rw [if_neg h]
end DN

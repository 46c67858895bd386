-- code
section SP
variable {k : Nat} {C X : Mm} {x y : Int32}
theorem ub (c : Int32) : f_X_usesB c = 0 ∨ f_X_usesB c = 1 := by
  unfold f_X_usesB
  by_cases h1 : c = 1
  · rw [if_pos h1]; exact Or.inr rfl
  · rw [if_neg h1]
    by_cases h2 : c = 2
    · rw [if_pos h2]; exact Or.inr rfl
    · rw [if_neg h2]
      by_cases h3 : c = 3
      · rw [if_pos h3]; exact Or.inr rfl
      · rw [if_neg h3]
        by_cases h5 : c = 5
        · rw [if_pos h5]; exact Or.inr rfl
        · rw [if_neg h5]
          by_cases h6 : c = 6
          · rw [if_pos h6]; exact Or.inr rfl
          · rw [if_neg h6]; exact Or.inl rfl
theorem xcode {p : Nat} {op a b : Int32} (hp : p < 3) (e2 : f_X_isProcess (nI p) = 1) (h84 : X 84 (nI p).toNatClampNeg = 0) (h16 : ¬ X 76 (nI p).toNatClampNeg = 16) : (f_G_isInstruction (nI p) op a b = 0 ∧ f_X_code X (nI p) op a b = (0, X)) ∨ (f_G_isInstruction (nI p) op a b = 1 ∧ opv p op a b ∧ f_X_code X (nI p) op a b = (1, m_X_code_4 X (nI p) op a b)) := by
  have hx : f_X_code X (nI p) op a b = (if op < 0 then (0, X) else (if op ≤ 7 then (if op = 4 then (if a < 0 then (0, X) else (if 15 < a then (0, X) else (if f_X_usesB op = 0 then (1, m_X_code_4 X (nI p) op a b) else (if f_X_isRegister b = 0 then (0, X) else (1, m_X_code_4 X (nI p) op a b))))) else (if op = 5 then (if f_X_isChannel (nI p) a = 0 then (0, X) else (if f_X_usesB op = 0 then (1, m_X_code_4 X (nI p) op a b) else (if f_X_isRegister b = 0 then (0, X) else (1, m_X_code_4 X (nI p) op a b)))) else (if f_X_isRegister a = 0 then (0, X) else (if f_X_usesB op = 0 then (1, m_X_code_4 X (nI p) op a b) else (if f_X_isRegister b = 0 then (0, X) else (1, m_X_code_4 X (nI p) op a b)))))) else (0, X))) := by
    rw [f_X_code, if_neg (ne1 e2), if_pos h84, if_neg h16]
  rw [hx]
  unfold f_G_isInstruction
  by_cases o0 : op = 0
  · subst o0
    rw [if_pos (show (0 : Int32) = 0 from rfl), if_neg (show ¬ (0 : Int32) < 0 by decide), if_pos (show (0 : Int32) ≤ 7 by decide)]
    rw [if_neg (show ¬ (0 : Int32) = 4 by decide), if_neg (show ¬ (0 : Int32) = 5 by decide)]
    rcases ir_cases a with ⟨q1, q2⟩ | ⟨j, hj, rfl, q1, q2⟩
    · exact Or.inl ⟨q1, by rw [if_pos q2]⟩
    · exact Or.inr ⟨q1, Or.inl ⟨rfl, j, hj, rfl⟩, by rw [if_neg (ne1 q2), if_pos (show f_X_usesB 0 = 0 by decide)]⟩
  · skip
    by_cases o1 : op = 1
    · subst o1
      rw [if_neg (show ¬ (1 : Int32) = 0 by decide), if_pos (show (1 : Int32) = 1 from rfl), if_neg (show ¬ (1 : Int32) < 0 by decide), if_pos (show (1 : Int32) ≤ 7 by decide)]
      rw [if_neg (show ¬ (1 : Int32) = 4 by decide), if_neg (show ¬ (1 : Int32) = 5 by decide)]
      rcases ir_cases a with ⟨q1, q2⟩ | ⟨j, hj, rfl, q1, q2⟩
      · exact Or.inl ⟨by rw [if_pos q1], by rw [if_pos q2]⟩
      · rw [if_neg (ne1 q1), if_neg (ne1 q2), if_neg (show ¬ f_X_usesB 1 = 0 by decide)]
        rcases ir_cases b with ⟨r1, r2⟩ | ⟨w, hw, rfl, r1, r2⟩
        · exact Or.inl ⟨by rw [if_pos r1], by rw [if_pos r2]⟩
        · exact Or.inr ⟨by rw [if_neg (ne1 r1)], Or.inr (Or.inl ⟨Or.inl rfl, j, w, hj, hw, rfl, rfl⟩), by rw [if_neg (ne1 r2)]⟩
    · skip
      by_cases o2 : op = 2
      · subst o2
        rw [if_neg (show ¬ (2 : Int32) = 0 by decide), if_neg (show ¬ (2 : Int32) = 1 by decide), if_pos (show (2 : Int32) = 2 from rfl), if_neg (show ¬ (2 : Int32) < 0 by decide), if_pos (show (2 : Int32) ≤ 7 by decide)]
        rw [if_neg (show ¬ (2 : Int32) = 4 by decide), if_neg (show ¬ (2 : Int32) = 5 by decide)]
        rcases ir_cases a with ⟨q1, q2⟩ | ⟨j, hj, rfl, q1, q2⟩
        · exact Or.inl ⟨by rw [if_pos q1], by rw [if_pos q2]⟩
        · rw [if_neg (ne1 q1), if_neg (ne1 q2), if_neg (show ¬ f_X_usesB 2 = 0 by decide)]
          rcases ir_cases b with ⟨r1, r2⟩ | ⟨w, hw, rfl, r1, r2⟩
          · exact Or.inl ⟨by rw [if_pos r1], by rw [if_pos r2]⟩
          · exact Or.inr ⟨by rw [if_neg (ne1 r1)], Or.inr (Or.inl ⟨Or.inr (Or.inl rfl), j, w, hj, hw, rfl, rfl⟩), by rw [if_neg (ne1 r2)]⟩
      · skip
        by_cases o3 : op = 3
        · subst o3
          rw [if_neg (show ¬ (3 : Int32) = 0 by decide), if_neg (show ¬ (3 : Int32) = 1 by decide), if_neg (show ¬ (3 : Int32) = 2 by decide), if_pos (show (3 : Int32) = 3 from rfl), if_neg (show ¬ (3 : Int32) < 0 by decide), if_pos (show (3 : Int32) ≤ 7 by decide)]
          rw [if_neg (show ¬ (3 : Int32) = 4 by decide), if_neg (show ¬ (3 : Int32) = 5 by decide)]
          rcases ir_cases a with ⟨q1, q2⟩ | ⟨j, hj, rfl, q1, q2⟩
          · exact Or.inl ⟨by rw [if_pos q1], by rw [if_pos q2]⟩
          · rw [if_neg (ne1 q1), if_neg (ne1 q2), if_neg (show ¬ f_X_usesB 3 = 0 by decide)]
            rcases ir_cases b with ⟨r1, r2⟩ | ⟨w, hw, rfl, r1, r2⟩
            · exact Or.inl ⟨by rw [if_pos r1], by rw [if_pos r2]⟩
            · exact Or.inr ⟨by rw [if_neg (ne1 r1)], Or.inr (Or.inl ⟨Or.inr (Or.inr (Or.inl rfl)), j, w, hj, hw, rfl, rfl⟩), by rw [if_neg (ne1 r2)]⟩
        · skip
          by_cases o4 : op = 4
          · subst o4
            rw [if_neg (show ¬ (4 : Int32) = 0 by decide), if_neg (show ¬ (4 : Int32) = 1 by decide), if_neg (show ¬ (4 : Int32) = 2 by decide), if_neg (show ¬ (4 : Int32) = 3 by decide), if_pos (show (4 : Int32) = 4 from rfl), if_neg (show ¬ (4 : Int32) < 0 by decide), if_pos (show (4 : Int32) ≤ 7 by decide)]
            rw [if_pos (show (4 : Int32) = 4 from rfl)]
            rcases pk_ix a (n := 16) (by decide) with q | q | ⟨j, hj, rfl⟩
            · exact Or.inl ⟨if_pos q, if_pos q⟩
            · by_cases q0 : a < 0
              · exact Or.inl ⟨if_pos q0, if_pos q0⟩
              · have q : (16 : Int32) ≤ a := q
                have q2 : (15 : Int32) < a := Int32.lt_iff_toInt_lt.mpr (by
                  have z : (16 : Int32).toInt ≤ a.toInt := Int32.le_iff_toInt_le.mp q
                  have z1 : (16 : Int32).toInt = 16 := by decide
                  have z2 : (15 : Int32).toInt = 15 := by decide
                  omega)
                exact Or.inl ⟨by rw [if_neg q0, if_pos q], by rw [if_neg q0, if_pos q2]⟩
            · have q0 : ¬ nI j < 0 := nI_pos (by omega)
              have q1 : ¬ (16 : Int32) ≤ nI j := nI_ge hj (by decide)
              have q2 : ¬ (15 : Int32) < nI j := nI_nlt (show j ≤ 15 by omega) (by decide)
              exact Or.inr ⟨by rw [if_neg q0, if_neg q1], Or.inr (Or.inr (Or.inl ⟨rfl, j, hj, rfl⟩)), by rw [if_neg q0, if_neg q2, if_pos (show f_X_usesB 4 = 0 by decide)]⟩
          · skip
            by_cases o5 : op = 5
            · subst o5
              rw [if_neg (show ¬ (5 : Int32) = 0 by decide), if_neg (show ¬ (5 : Int32) = 1 by decide), if_neg (show ¬ (5 : Int32) = 2 by decide), if_neg (show ¬ (5 : Int32) = 3 by decide), if_neg (show ¬ (5 : Int32) = 4 by decide), if_pos (show (5 : Int32) = 5 from rfl), if_neg (show ¬ (5 : Int32) < 0 by decide), if_pos (show (5 : Int32) ≤ 7 by decide)]
              rw [if_neg (show ¬ (5 : Int32) = 4 by decide), if_pos (show (5 : Int32) = 5 from rfl)]
              rcases ic_cases (nI p) a with ⟨q1, q2⟩ | ⟨p', j, hp', hj, hne, q0, rfl, q1, q2⟩
              · exact Or.inl ⟨by rw [if_pos q1], by rw [if_pos q2]⟩
              · have ep : p = p' := (nI_eq (by omega) (by omega)).mp q0
                rw [if_neg (ne1 q1), if_neg (ne1 q2), if_neg (show ¬ f_X_usesB 5 = 0 by decide)]
                rcases ir_cases b with ⟨r1, r2⟩ | ⟨w, hw, rfl, r1, r2⟩
                · exact Or.inl ⟨by rw [if_pos r1], by rw [if_pos r2]⟩
                · exact Or.inr ⟨by rw [if_neg (ne1 r1)], Or.inr (Or.inr (Or.inr (Or.inl ⟨rfl, j, w, hj, by omega, hw, rfl, rfl⟩))), by rw [if_neg (ne1 r2)]⟩
            · skip
              by_cases o6 : op = 6
              · subst o6
                rw [if_neg (show ¬ (6 : Int32) = 0 by decide), if_neg (show ¬ (6 : Int32) = 1 by decide), if_neg (show ¬ (6 : Int32) = 2 by decide), if_neg (show ¬ (6 : Int32) = 3 by decide), if_neg (show ¬ (6 : Int32) = 4 by decide), if_neg (show ¬ (6 : Int32) = 5 by decide), if_pos (show (6 : Int32) = 6 from rfl), if_neg (show ¬ (6 : Int32) < 0 by decide), if_pos (show (6 : Int32) ≤ 7 by decide)]
                rw [if_neg (show ¬ (6 : Int32) = 4 by decide), if_neg (show ¬ (6 : Int32) = 5 by decide)]
                rcases ir_cases a with ⟨q1, q2⟩ | ⟨j, hj, rfl, q1, q2⟩
                · exact Or.inl ⟨by rw [if_pos q1], by rw [if_pos q2]⟩
                · rw [if_neg (ne1 q1), if_neg (ne1 q2), if_neg (show ¬ f_X_usesB 6 = 0 by decide)]
                  rcases ir_cases b with ⟨r1, r2⟩ | ⟨w, hw, rfl, r1, r2⟩
                  · exact Or.inl ⟨by rw [if_pos r1], by rw [if_pos r2]⟩
                  · exact Or.inr ⟨by rw [if_neg (ne1 r1)], Or.inr (Or.inl ⟨Or.inr (Or.inr (Or.inr rfl)), j, w, hj, hw, rfl, rfl⟩), by rw [if_neg (ne1 r2)]⟩
              · skip
                by_cases o7 : op = 7
                · subst o7
                  rw [if_neg (show ¬ (7 : Int32) = 0 by decide), if_neg (show ¬ (7 : Int32) = 1 by decide), if_neg (show ¬ (7 : Int32) = 2 by decide), if_neg (show ¬ (7 : Int32) = 3 by decide), if_neg (show ¬ (7 : Int32) = 4 by decide), if_neg (show ¬ (7 : Int32) = 5 by decide), if_neg (show ¬ (7 : Int32) = 6 by decide), if_pos (show (7 : Int32) = 7 from rfl), if_neg (show ¬ (7 : Int32) < 0 by decide), if_pos (show (7 : Int32) ≤ 7 by decide)]
                  rw [if_neg (show ¬ (7 : Int32) = 4 by decide), if_neg (show ¬ (7 : Int32) = 5 by decide)]
                  rcases ir_cases a with ⟨q1, q2⟩ | ⟨j, hj, rfl, q1, q2⟩
                  · exact Or.inl ⟨q1, by rw [if_pos q2]⟩
                  · exact Or.inr ⟨q1, Or.inr (Or.inr (Or.inr (Or.inr ⟨rfl, j, hj, rfl⟩))), by rw [if_neg (ne1 q2), if_pos (show f_X_usesB 7 = 0 by decide)]⟩
                · skip
                  refine Or.inl ⟨by rw [if_neg o0, if_neg o1, if_neg o2, if_neg o3, if_neg o4, if_neg o5, if_neg o6, if_neg o7], ?_⟩
                  rcases tb_out0_7 o0 o1 o2 o3 o4 o5 o6 o7 with q | q
                  · rw [if_pos (Int32.lt_iff_toInt_lt.mpr (by simpa using q))]
                  · have q1 : ¬ op < 0 := fun z => by
                      have z2 : op.toInt < 0 := by simpa using Int32.lt_iff_toInt_lt.mp z
                      omega
                    have q2 : ¬ op ≤ 7 := fun z => by
                      have z2 : op.toInt ≤ (7 : Int32).toInt := Int32.le_iff_toInt_le.mp z
                      have z3 : (7 : Int32).toInt = 7 := by decide
                      omega
                    rw [if_neg q1, if_neg q2]
theorem okxcode {p ln : Nat} {op a b : Int32} (hp : p < 3) (h76 : X 76 p = nI ln) (hln : ln ≤ 16) : ok_X_code X (nI p) op a b := by
  have hi : ∀ h16 : ¬ X 76 (nI p).toNatClampNeg = 16, vp_in ((16 * nI p) + X 76 (nI p).toNatClampNeg) 48 := fun h16 => by
    rw [nI_clamp (by omega), h76] at h16 ⊢
    have : ln ≠ 16 := fun e => h16 (by rw [e]; rfl)
    rw [show (16 : Int32) = nI 16 from rfl, pk_mul, nI_add]
    exact vp_in_nI (by omega) (by decide)
  unfold ok_X_code
  refine ⟨fun _ => trivial, fun _ => ⟨pin hp, fun _ => ⟨fun _ => trivial, fun h16 => ?_⟩, fun _ => trivial⟩⟩
  have h := hi h16
  simp only [h, implies_true, and_self]
def cC (C : Mm) (p ln : Nat) (op a b : Int32) : Mm := u2 (u2 (u2 (u2 C (2 + 14 * p + 1 + 1) ln op) (2 + 14 * p + 1 + 2) ln a) (2 + 14 * p + 1 + 3) ln b) (2 + 14 * p + 1) 0 (nI (ln + 1))
def cX (X : Mm) (p ln : Nat) (op a b : Int32) : Mm := u2 (u2 (u2 (u2 X 77 (16 * p + ln) op) 78 (16 * p + ln) a) 79 (16 * p + ln) b) 76 p (nI (ln + 1))
theorem pa_C {p ln : Nat} {op a b : Int32} (h : C (2 + 14 * p + 1) 0 = nI ln) (hln : ln < 16) : ok_P_append C (2 + 14 * p + 1) op a b ∧ f_P_append C (2 + 14 * p + 1) op a b = cC C p ln op a b := by
  have hc : (nI ln).toNatClampNeg = ln := nI_clamp (by omega)
  have e1 : m_P_append_1 C (2 + 14 * p + 1) op a b = u2 C (2 + 14 * p + 1 + 1) ln op := by
    unfold m_P_append_1
    rw [h, hc]
  have r1 : m_P_append_1 C (2 + 14 * p + 1) op a b (2 + 14 * p + 1) 0 = nI ln := by rw [e1, u2_k (by omega), h]
  have e2 : m_P_append_2 C (2 + 14 * p + 1) op a b = u2 (u2 C (2 + 14 * p + 1 + 1) ln op) (2 + 14 * p + 1 + 2) ln a := by
    unfold m_P_append_2
    rw [r1, hc, e1]
  have r2 : m_P_append_2 C (2 + 14 * p + 1) op a b (2 + 14 * p + 1) 0 = nI ln := by rw [e2, u2_k (by omega), u2_k (by omega), h]
  have e3 : m_P_append_3 C (2 + 14 * p + 1) op a b = u2 (u2 (u2 C (2 + 14 * p + 1 + 1) ln op) (2 + 14 * p + 1 + 2) ln a) (2 + 14 * p + 1 + 3) ln b := by
    unfold m_P_append_3
    rw [r2, hc, e2]
  have r3 : m_P_append_3 C (2 + 14 * p + 1) op a b (2 + 14 * p + 1) 0 = nI ln := by rw [e3, u2_k (by omega), u2_k (by omega), u2_k (by omega), h]
  refine ⟨?_, ?_⟩
  · unfold ok_P_append
    rw [r1, r2, h]
    exact ⟨vp_in_nI hln (by decide), vp_in_nI hln (by decide), vp_in_nI hln (by decide)⟩
  · unfold f_P_append m_P_append_4 cC
    rw [r3, e3, nI_1]
theorem pa_X {p ln : Nat} {op a b : Int32} (hp : p < 3) (h : X 76 p = nI ln) (hln : ln < 16) : m_X_code_4 X (nI p) op a b = cX X p ln op a b := by
  have hc : (nI p).toNatClampNeg = p := nI_clamp (by omega)
  have e : ((16 * nI p) + nI ln).toNatClampNeg = 16 * p + ln := by rw [show (16 : Int32) = nI 16 from rfl, pk_mul, nI_add, nI_clamp (by omega)]
  unfold m_X_code_4 m_X_code_3 m_X_code_2 m_X_code_1 cX
  rw [hc, h, e, u2_k (a := 76) (by decide), u2_k (a := 76) (by decide), u2_k (a := 76) (by decide), h, nI_1]
theorem cC_k {p ln q : Nat} {op a b : Int32} (h1 : q ≠ 2 + 14 * p + 1) (h2 : q ≠ 2 + 14 * p + 1 + 1) (h3 : q ≠ 2 + 14 * p + 1 + 2) (h4 : q ≠ 2 + 14 * p + 1 + 3) : cC C p ln op a b q = C q := by
  unfold cC
  rw [u2_k h1, u2_k h4, u2_k h3, u2_k h2]
theorem cX_k {p ln q : Nat} {op a b : Int32} (h1 : q ≠ 76) (h2 : q ≠ 77) (h3 : q ≠ 78) (h4 : q ≠ 79) : cX X p ln op a b q = X q := by
  unfold cX
  rw [u2_k h1, u2_k h4, u2_k h3, u2_k h2]
theorem cX_i {p ln i : Nat} {op a b : Int32} (h : i ≠ 16 * p + ln) : cX X p ln op a b 77 i = X 77 i ∧ cX X p ln op a b 78 i = X 78 i ∧ cX X p ln op a b 79 i = X 79 i := by
  unfold cX
  rw [u2_k (a := 77) (k := 76) (by decide), u2_k (a := 77) (k := 79) (by decide), u2_k (a := 77) (k := 78) (by decide), u2_j h, u2_k (a := 78) (k := 76) (by decide), u2_k (a := 78) (k := 79) (by decide), u2_j h, u2_k (a := 78) (k := 77) (by decide), u2_k (a := 79) (k := 76) (by decide), u2_j h, u2_k (a := 79) (k := 78) (by decide), u2_k (a := 79) (k := 77) (by decide)]
  exact ⟨rfl, rfl, rfl⟩
theorem cX_n {p ln : Nat} {op a b : Int32} : cX X p ln op a b 77 (16 * p + ln) = op ∧ cX X p ln op a b 78 (16 * p + ln) = a ∧ cX X p ln op a b 79 (16 * p + ln) = b := by
  unfold cX
  rw [u2_k (a := 77) (k := 76) (by decide), u2_k (a := 77) (k := 79) (by decide), u2_k (a := 77) (k := 78) (by decide), u2_s, u2_k (a := 78) (k := 76) (by decide), u2_k (a := 78) (k := 79) (by decide), u2_s, u2_k (a := 79) (k := 76) (by decide), u2_s]
  exact ⟨rfl, rfl, rfl⟩
theorem sim_code {op a b : Int32} : Sim k (fun C => ok_G_code C x op a b) (fun X => ok_X_code X x op a b) (fun C => f_G_code C x op a b) (fun X => f_X_code X x op a b) := by
  intro C X h
  dsimp only
  rcases ip_cases x with ⟨e1, e2⟩ | ⟨p, hp, rfl, e1, e2⟩
  · unfold ok_G_code ok_X_code f_G_code f_X_code
    rw [if_pos e1, if_pos e2]
    exact same h ⟨fun _ => trivial, fun z => absurd e1 z⟩ ⟨fun _ => trivial, fun z => absurd e2 z⟩
  · obtain ⟨ln, tt, sk, ag, sg, tr, dl, se, no, hc, hr⟩ := id h
    obtain ⟨⟨⟨p1, p2, p3, p4⟩, hL, hF, ⟨t1, t2, t3, t4, t5, t6, t7, t8, t9⟩⟩, n1, n2⟩ := hc.1 p hp
    obtain ⟨⟨a1, a2⟩, b1, b2, b3⟩ := hr p hp
    have hcl : (nI p).toNatClampNeg = p := nI_clamp (by omega)
    have okx : ok_X_code X (nI p) op a b := okxcode hp p3 p1
    have hfu : (f_P_isFull C (2 + 14 * p + 1) = 0) ↔ ln p < 16 := by
      unfold f_P_isFull
      rw [p2, show (16 : Int32) = nI 16 from rfl]
      by_cases z : ln p < 16
      · rw [if_pos (nI_lt z (by decide))]; exact ⟨fun _ => z, fun _ => rfl⟩
      · rw [if_neg (nI_nlt (by omega) (by omega))]; exact ⟨fun q => absurd q (by decide), fun q => absurd q z⟩
    have okg : ok_G_code C (nI p) op a b := by
      unfold ok_G_code
      rw [Mb_nI hp]
      exact ⟨fun _ => trivial, fun _ => ⟨fun _ => trivial, fun _ => ⟨pin hp, fun _ => ⟨fun z => (pa_C p2 (hfu.mp z)).1, fun _ => trivial⟩, fun _ => trivial⟩⟩⟩
    have hG : f_G_code C (nI p) op a b = if f_G_isInstruction (nI p) op a b = 0 then (0, C) else (if C (2 + 14 * p) 1 = 0 then (if f_P_isFull C (2 + 14 * p + 1) = 0 then (1, f_P_append C (2 + 14 * p + 1) op a b) else (0, C)) else (0, C)) := by
      rw [f_G_code, if_neg (ne1 e1), Mb_nI hp]
    by_cases hb : X 84 p = 0
    · by_cases h16 : ln p = 16
      · have hX : f_X_code X (nI p) op a b = (0, X) := by
          rw [f_X_code, if_neg (ne1 e2), hcl, if_pos hb, p3, h16, if_pos (show nI 16 = 16 from rfl)]
        have hGz : f_G_code C (nI p) op a b = (0, C) := by
          rw [hG]
          by_cases z : f_G_isInstruction (nI p) op a b = 0
          · rw [if_pos z]
          · rw [if_neg z, b1, if_pos hb, if_neg (fun q => by have := hfu.mp q; omega)]
        rw [hX, hGz]
        exact same h okg okx
      · have hne : ¬ X 76 (nI p).toNatClampNeg = 16 := by
          rw [hcl, p3, show (16 : Int32) = nI 16 from rfl]
          exact fun z => h16 ((nI_eq (by omega) (by decide)).mp z)
        rcases xcode (X := X) (op := op) (a := a) (b := b) hp e2 (by rw [hcl]; exact hb) hne with ⟨g1, g2⟩ | ⟨g1, g3, g2⟩
        · rw [g2, hG, if_pos g1]
          exact same h okg okx
        · obtain ⟨q1, q2⟩ := pa_C (op := op) (a := a) (b := b) p2 (by omega)
          rw [g2, hG, if_neg (ne1 g1), b1, if_pos hb, if_pos (hfu.mpr (by omega)), q2, pa_X hp p3 (by omega)]
          have hag : ag p = 0 := b3 hb
          refine made okg okx ?_ (fun z hz => cC_k (by omega) (by omega) (by omega) (by omega)) (fun z hz => cX_k (by omega) (by omega) (by omega) (by omega))
          refine Rel_one (p := p) (ln' := ln p + 1) (tt' := tt p) (sk' := sk p) (ag' := ag p) (sg' := sg p) (tr' := tr p) hc hr (fun q hq hne z h1 h2 => cC_k (by omega) (by omega) (by omega) (by omega)) ?_ ?_ ⟨⟨by omega, ?_, ?_, ?_⟩, rL_c hL (fun j h1 h2 => cC_k (by omega) (by omega) (by omega) (by omega)) (by rw [cX_k (by decide) (by decide) (by decide) (by decide)]) (by rw [cX_k (by decide) (by decide) (by decide) (by decide)]) (cX_k (by decide) (by decide) (by decide) (by decide)) (cX_k (by decide) (by decide) (by decide) (by decide)), ?_, ⟨t1, ?_, t3, ?_, ?_, t6, t7, t8, t9⟩⟩ (by omega) (by omega) ?_ ?_ (chs_s hc (fun z h1 h2 => cC_k (by omega) (by omega) (by omega) (by omega)) (cX_k (by decide) (by decide) (by decide) (by decide)) (cX_k (by decide) (by decide) (by decide) (by decide)) (cX_k (by decide) (by decide) (by decide) (by decide))) (out_c hc.2.2 (fun z h1 h2 => cC_k (by omega) (by omega) (by omega) (by omega)) (by rw [cX_k (by decide) (by decide) (by decide) (by decide)]) (cX_k (by decide) (by decide) (by decide) (by decide)) (cX_k (by decide) (by decide) (by decide) (by decide)))
          · intro q hq hnq
            unfold xeq
            rw [cX_k (q := 80) (by decide) (by decide) (by decide) (by decide), cX_k (q := 83) (by decide) (by decide) (by decide) (by decide), cX_k (q := 85) (by decide) (by decide) (by decide) (by decide), cX_k (q := 86) (by decide) (by decide) (by decide) (by decide), cX_k (q := 87) (by decide) (by decide) (by decide) (by decide), cX_k (q := 88) (by decide) (by decide) (by decide) (by decide), cX_k (q := 94) (by decide) (by decide) (by decide) (by decide)]
            refine ⟨?_, rfl, rfl, rfl, rfl, rfl, fun i hi => cX_i (by omega), fun _ _ => ⟨rfl, rfl⟩⟩
            unfold cX
            rw [u2_j hnq, u2_k (by decide), u2_k (by decide), u2_k (by decide)]
          · intro q hq hnq
            rw [cX_k (q := 81) (by decide) (by decide) (by decide) (by decide), cX_k (q := 82) (by decide) (by decide) (by decide) (by decide), cX_k (q := 84) (by decide) (by decide) (by decide) (by decide)]
            exact ⟨rfl, rfl, rfl⟩
          · unfold cC
            rw [u2_s]
          · unfold cX
            rw [u2_s]
          · intro i hi
            by_cases e : i = ln p
            · subst e
              obtain ⟨z1, z2, z3⟩ := cX_n (X := X) (p := p) (ln := ln p) (op := op) (a := a) (b := b)
              rw [z1, z2, z3]
              unfold cC
              rw [show 2 + 14 * p + 2 = 2 + 14 * p + 1 + 1 from rfl, show 2 + 14 * p + 3 = 2 + 14 * p + 1 + 2 from rfl, show 2 + 14 * p + 4 = 2 + 14 * p + 1 + 3 from rfl, u2_k (a := 2 + 14 * p + 1 + 1) (k := 2 + 14 * p + 1) (by omega), u2_k (a := 2 + 14 * p + 1 + 1) (k := 2 + 14 * p + 1 + 3) (by omega), u2_k (a := 2 + 14 * p + 1 + 1) (k := 2 + 14 * p + 1 + 2) (by omega), u2_s, u2_k (a := 2 + 14 * p + 1 + 2) (k := 2 + 14 * p + 1) (by omega), u2_k (a := 2 + 14 * p + 1 + 2) (k := 2 + 14 * p + 1 + 3) (by omega), u2_s, u2_k (a := 2 + 14 * p + 1 + 3) (k := 2 + 14 * p + 1) (by omega), u2_s]
              exact ⟨rfl, rfl, rfl, g3⟩
            · obtain ⟨z1, z2, z3⟩ := cX_i (X := X) (p := p) (ln := ln p) (i := 16 * p + i) (op := op) (a := a) (b := b) (by omega)
              rw [z1, z2, z3]
              unfold cC
              rw [show 2 + 14 * p + 2 = 2 + 14 * p + 1 + 1 from rfl, show 2 + 14 * p + 3 = 2 + 14 * p + 1 + 2 from rfl, show 2 + 14 * p + 4 = 2 + 14 * p + 1 + 3 from rfl, u2_k (a := 2 + 14 * p + 1 + 1) (k := 2 + 14 * p + 1) (by omega), u2_k (a := 2 + 14 * p + 1 + 1) (k := 2 + 14 * p + 1 + 3) (by omega), u2_k (a := 2 + 14 * p + 1 + 1) (k := 2 + 14 * p + 1 + 2) (by omega), u2_j (k := 2 + 14 * p + 1 + 1) e, u2_k (a := 2 + 14 * p + 1 + 2) (k := 2 + 14 * p + 1) (by omega), u2_k (a := 2 + 14 * p + 1 + 2) (k := 2 + 14 * p + 1 + 3) (by omega), u2_j (k := 2 + 14 * p + 1 + 2) e, u2_k (a := 2 + 14 * p + 1 + 2) (k := 2 + 14 * p + 1 + 1) (by omega), u2_k (a := 2 + 14 * p + 1 + 3) (k := 2 + 14 * p + 1) (by omega), u2_j (k := 2 + 14 * p + 1 + 3) e, u2_k (a := 2 + 14 * p + 1 + 3) (k := 2 + 14 * p + 1 + 2) (by omega), u2_k (a := 2 + 14 * p + 1 + 3) (k := 2 + 14 * p + 1 + 1) (by omega)]
              exact p4 i (by omega)
          · unfold rF
            rw [cC_k (by omega) (by omega) (by omega) (by omega), cX_k (by decide) (by decide) (by decide) (by decide), cX_k (by decide) (by decide) (by decide) (by decide), cX_k (by decide) (by decide) (by decide) (by decide)]
            exact hF
          · intro j hj
            omega
          · exact vst_c t4 (cC_k (by omega) (by omega) (by omega) (by omega)) (cC_k (by omega) (by omega) (by omega) (by omega)) (cC_k (by omega) (by omega) (by omega) (by omega))
          · exact vst_c t5 (cC_k (by omega) (by omega) (by omega) (by omega)) (cC_k (by omega) (by omega) (by omega) (by omega)) (cC_k (by omega) (by omega) (by omega) (by omega))
          · unfold rA
            rw [cX_k (by decide) (by decide) (by decide) (by decide), cX_k (by decide) (by decide) (by decide) (by decide)]
            exact ⟨a1, a2⟩
          · unfold rB
            rw [cC_k (by omega) (by omega) (by omega) (by omega), cX_k (by decide) (by decide) (by decide) (by decide)]
            exact ⟨b1, b2, b3⟩
    · have hX : f_X_code X (nI p) op a b = (0, X) := by
        rw [f_X_code, if_neg (ne1 e2), hcl, if_neg hb]
      have hGz : f_G_code C (nI p) op a b = (0, C) := by
        rw [hG]
        by_cases z : f_G_isInstruction (nI p) op a b = 0
        · rw [if_pos z]
        · rw [if_neg z, b1, if_neg hb]
      rw [hX, hGz]
      exact same h okg okx
end SP

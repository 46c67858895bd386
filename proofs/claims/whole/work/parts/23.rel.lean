-- THE STATE of both, as numbers
def opv (p : Nat) (op a b : Int32) : Prop := (op = 0 ∧ ∃ x, x < 4 ∧ a = nI x) ∨ ((op = 1 ∨ op = 2 ∨ op = 3 ∨ op = 6) ∧ ∃ x y, x < 4 ∧ y < 4 ∧ a = nI x ∧ b = nI y) ∨ (op = 4 ∧ ∃ x, x < 16 ∧ a = nI x) ∨ (op = 5 ∧ ∃ x y, x < 3 ∧ x ≠ p ∧ y < 4 ∧ a = nI x ∧ b = nI y) ∨ (op = 7 ∧ ∃ x, x < 4 ∧ a = nI x)
/-- a process's state as a row of eleven: 0-3 registers, 4-6 sent, 7 place, 8 age, 9 took, 10 put -/
def plc (op a b : Int32) (u : Nat → Int32) : Int32 := if op = 4 then a else (if op = 3 then (if u b.toNatClampNeg ≤ u a.toNatClampNeg then u 7 + 1 else u 7 + 2) else u 7 + 1)
def bas (op a b : Int32) (u : Nat → Int32) : Nat → Int32 := upd (upd u 8 (u 8 + 1)) 7 (plc op a b u)
def nxt (op a b val org : Int32) (u : Nat → Int32) : Nat → Int32 :=
  if op = 0 then upd (bas op a b u) a.toNatClampNeg b
  else if op = 1 then upd (bas op a b u) a.toNatClampNeg (u a.toNatClampNeg + u b.toNatClampNeg)
  else if op = 2 then upd (bas op a b u) a.toNatClampNeg (u a.toNatClampNeg * u b.toNatClampNeg)
  else if op = 3 then bas op a b u
  else if op = 4 then bas op a b u
  else if op = 5 then upd (bas op a b u) (4 + a.toNatClampNeg) (u (4 + a.toNatClampNeg) + 1)
  else if op = 6 then upd (upd (upd (bas op a b u) b.toNatClampNeg org) a.toNatClampNeg val) 9 (u 9 + 1)
  else upd (bas op a b u) 10 (u 10 + 1)
def vst (C : Mm) (k : Nat) (u : Nat → Int32) : Prop := (∀ j, j < 4 → C (k + 1) j = u j) ∧ (∀ j, j < 3 → C (k + 2) j = u (4 + j)) ∧ C k 0 = u 7 ∧ C k 1 = u 8 ∧ C k 2 = u 9 ∧ C k 3 = u 10
def scr (X : Mm) (u : Nat → Int32) : Prop := (∀ j, j < 4 → X 95 j = u j) ∧ (∀ j, j < 3 → X 96 j = u (4 + j)) ∧ X 75 1 = u 7 ∧ X 75 4 = u 8 ∧ X 75 2 = u 9 ∧ X 75 3 = u 10
/-- one instruction done again: from u to v -/
def stp (X : Mm) (p ln tt : Nat) (u v : Nat → Int32) : Prop := ∃ i, i < ln ∧ u 7 = nI i ∧ ∃ t, (X 77 (16 * p + i) = 6 → t < tt ∧ u 9 = nI t) ∧ ∀ j, j < 11 → v j = nxt (X 77 (16 * p + i)) (X 78 (16 * p + i)) (X 79 (16 * p + i)) (X 87 (512 * p + t)) (X 88 (512 * p + t)) u j
def rP (C X : Mm) (p ln : Nat) : Prop := ln ≤ 16 ∧ C (2 + 14 * p + 1) 0 = nI ln ∧ X 76 p = nI ln ∧ ∀ i, i < ln → C (2 + 14 * p + 2) i = X 77 (16 * p + i) ∧ C (2 + 14 * p + 3) i = X 78 (16 * p + i) ∧ C (2 + 14 * p + 4) i = X 79 (16 * p + i) ∧ opv p (X 77 (16 * p + i)) (X 78 (16 * p + i)) (X 79 (16 * p + i))
def rL (C X : Mm) (p tt sk : Nat) : Prop := sk ≤ tt ∧ tt ≤ sk + 20 ∧ C (2 + 14 * p + 11) 0 = nI sk ∧ C (2 + 14 * p + 11) 1 = nI tt ∧ X 83 p = nI sk ∧ X 86 p = nI tt ∧ ∀ i, sk ≤ i → i < tt → C (2 + 14 * p + 12) ((i + 1) % 20) = X 87 (512 * p + i) ∧ C (2 + 14 * p + 13) ((i + 1) % 20) = X 88 (512 * p + i)
def rF (C X : Mm) (p : Nat) : Prop := ((C (2 + 14 * p) 0 = 1 ∧ X 80 p = 0) ∨ (C (2 + 14 * p) 0 = 0 ∧ X 80 p = 1)) ∧ C (2 + 14 * p) 2 = X 94 p ∧ C (2 + 14 * p) 3 = X 85 p
def rT (C X : Mm) (p ln tt sk ag sg : Nat) (tr : Nat → Nat → Int32) : Prop := (∀ j, tr 0 j = 0) ∧ (∀ k, k < ag → stp X p ln tt (tr k) (tr (k + 1))) ∧ sg ≤ ag ∧ vst C (2 + 14 * p + 5) (tr ag) ∧ vst C (2 + 14 * p + 8) (tr sg) ∧ (∃ t, tr ag 9 = nI t ∧ sk ≤ t ∧ t ≤ tt) ∧ tr sg 9 = nI sk ∧ (∃ i, i ≤ 17 ∧ tr ag 7 = nI i) ∧ (∃ i, i ≤ 17 ∧ tr sg 7 = nI i)
def rQ (C X : Mm) (p ln tt sk ag sg : Nat) (tr : Nat → Nat → Int32) : Prop := rP C X p ln ∧ rL C X p tt sk ∧ rF C X p ∧ rT C X p ln tt sk ag sg tr
def rC (C X : Mm) (c dl se : Nat) : Prop := dl ≤ se ∧ se ≤ dl + 8 ∧ C (45 + 3 * c) 0 = nI dl ∧ C (45 + 3 * c) 1 = nI se ∧ X 90 c = nI dl ∧ X 89 c = nI se ∧ ∀ i, dl ≤ i → i < se → C (45 + 3 * c + 1) ((i + 1) % 8) = X 91 (8 * c + i % 8)
def rO (C X : Mm) (no : Nat) : Prop := no ≤ 60 ∧ C 72 0 = 0 ∧ C 72 1 = nI no ∧ X 75 0 = nI no ∧ ∀ i, i < no → C 73 ((i + 1) % 60) = X 93 i ∧ C 74 ((i + 1) % 60) = X 92 i
def rA (X : Mm) (p ag sg : Nat) : Prop := X 81 p = nI ag ∧ X 82 p = nI sg
def rB (C X : Mm) (p ag : Nat) : Prop := C (2 + 14 * p) 1 = X 84 p ∧ (X 84 p = 0 ∨ X 84 p = 1) ∧ (X 84 p = 0 → ag = 0)
def Core (n b : Nat) (C X : Mm) (ln tt sk ag sg : Nat → Nat) (tr : Nat → Nat → Nat → Int32) (dl se : Nat → Nat) (no : Nat) : Prop := (∀ p, p < 3 → rQ C X p (ln p) (tt p) (sk p) (ag p) (sg p) (tr p) ∧ tt p ≤ n ∧ ag p ≤ b) ∧ (∀ c, c < 9 → rC C X c (dl c) (se c) ∧ se c ≤ b) ∧ rO C X no
def Rel (n : Nat) (C X : Mm) : Prop := ∃ (ln tt sk ag sg : Nat → Nat) (tr : Nat → Nat → Nat → Int32) (dl se : Nat → Nat) (no : Nat), Core n (100 * n) C X ln tt sk ag sg tr dl se no ∧ ∀ p, p < 3 → rA X p (ag p) (sg p) ∧ rB C X p (ag p)
-- what a part of it reads
def ceq (C C' : Mm) (q : Nat) : Prop := ∀ k, 2 + 14 * q ≤ k → k < 16 + 14 * q → C' k = C k
def xeq (X X' : Mm) (q tt : Nat) : Prop := X' 76 q = X 76 q ∧ X' 80 q = X 80 q ∧ X' 83 q = X 83 q ∧ X' 85 q = X 85 q ∧ X' 86 q = X 86 q ∧ X' 94 q = X 94 q ∧ (∀ i, i < 16 → X' 77 (16 * q + i) = X 77 (16 * q + i) ∧ X' 78 (16 * q + i) = X 78 (16 * q + i) ∧ X' 79 (16 * q + i) = X 79 (16 * q + i)) ∧ (∀ i, i < tt → X' 87 (512 * q + i) = X 87 (512 * q + i) ∧ X' 88 (512 * q + i) = X 88 (512 * q + i))
theorem vst_c {C C' : Mm} {k : Nat} {u : Nat → Int32} (h : vst C k u) (h0 : C' k = C k) (h1 : C' (k + 1) = C (k + 1)) (h2 : C' (k + 2) = C (k + 2)) : vst C' k u := by
  unfold vst at *
  rw [h0, h1, h2]
  exact h
theorem nxt_org {op a b v o v' o' : Int32} {u : Nat → Int32} (h : ¬ op = 6) : nxt op a b v o u = nxt op a b v' o' u := by
  unfold nxt
  rw [if_neg h, if_neg h]
theorem stp_x {X X' : Mm} {p ln tt tt' : Nat} {u v : Nat → Int32} (hln : ln ≤ 16) (htt : tt ≤ tt') (h1 : ∀ i, i < ln → X' 77 (16 * p + i) = X 77 (16 * p + i) ∧ X' 78 (16 * p + i) = X 78 (16 * p + i) ∧ X' 79 (16 * p + i) = X 79 (16 * p + i)) (h2 : ∀ i, i < tt → X' 87 (512 * p + i) = X 87 (512 * p + i) ∧ X' 88 (512 * p + i) = X 88 (512 * p + i)) (h : stp X p ln tt u v) : stp X' p ln tt' u v := by
  obtain ⟨i, hi, hu, t, ht, hv⟩ := h
  obtain ⟨e1, e2, e3⟩ := h1 i hi
  refine ⟨i, hi, hu, t, ?_, ?_⟩
  · rw [e1]
    exact fun h => ⟨Nat.lt_of_lt_of_le (ht h).1 htt, (ht h).2⟩
  · intro j hj
    rw [e1, e2, e3, hv j hj]
    by_cases h6 : X 77 (16 * p + i) = 6
    · obtain ⟨e4, e5⟩ := h2 t (ht h6).1
      rw [e4, e5]
    · exact congrFun (nxt_org h6) j
theorem rQ_c {C C' X X' : Mm} {q ln tt sk ag sg : Nat} {tr : Nat → Nat → Int32} (h : rQ C X q ln tt sk ag sg tr) (hC : ceq C C' q) (hX : xeq X X' q tt) : rQ C' X' q ln tt sk ag sg tr := by
  obtain ⟨⟨p1, p2, p3, p4⟩, ⟨l1, l2, l3, l4, l5, l6, l7⟩, ⟨f1, f2, f3⟩, ⟨t1, t2, t3, t4, t5, t6, t7⟩⟩ := h
  obtain ⟨x1, x2, x3, x4, x5, x6, x7, x8⟩ := hX
  have c (j : Nat) (hj : j < 14) : C' (2 + 14 * q + j) = C (2 + 14 * q + j) := hC _ (by omega) (by omega)
  have c0 : C' (2 + 14 * q) = C (2 + 14 * q) := hC _ (by omega) (by omega)
  refine ⟨⟨p1, ?_, ?_, ?_⟩, ⟨l1, l2, ?_, ?_, ?_, ?_, ?_⟩, ⟨?_, ?_, ?_⟩, ⟨t1, ?_, t3, ?_, ?_, t6, t7⟩⟩
  · rw [c 1 (by omega)]; exact p2
  · rw [x1]; exact p3
  · intro i hi
    obtain ⟨e1, e2, e3⟩ := x7 i (by omega)
    rw [c 2 (by omega), c 3 (by omega), c 4 (by omega), e1, e2, e3]
    exact p4 i hi
  · rw [c 11 (by omega)]; exact l3
  · rw [c 11 (by omega)]; exact l4
  · rw [x3]; exact l5
  · rw [x5]; exact l6
  · intro i h1 h2
    obtain ⟨e1, e2⟩ := x8 i h2
    rw [c 12 (by omega), c 13 (by omega), e1, e2]
    exact l7 i h1 h2
  · rw [c0, x2]; exact f1
  · rw [c0, x6]; exact f2
  · rw [c0, x4]; exact f3
  · intro k hk
    exact stp_x p1 (Nat.le_refl _) (fun i hi => x7 i (by omega)) x8 (t2 k hk)
  · exact vst_c t4 (c 5 (by omega)) (c 6 (by omega)) (c 7 (by omega))
  · exact vst_c t5 (c 8 (by omega)) (c 9 (by omega)) (c 10 (by omega))
theorem rC_c {C C' X X' : Mm} {c dl se : Nat} (h : rC C X c dl se) (h0 : C' (45 + 3 * c) = C (45 + 3 * c)) (h1 : C' (45 + 3 * c + 1) = C (45 + 3 * c + 1)) (h2 : X' 89 c = X 89 c) (h3 : X' 90 c = X 90 c) (h4 : ∀ i, i < 8 → X' 91 (8 * c + i) = X 91 (8 * c + i)) : rC C' X' c dl se := by
  obtain ⟨r1, r2, r3, r4, r5, r6, r7⟩ := h
  refine ⟨r1, r2, ?_, ?_, ?_, ?_, ?_⟩
  · rw [h0]; exact r3
  · rw [h0]; exact r4
  · rw [h3]; exact r5
  · rw [h2]; exact r6
  · intro i a1 a2
    rw [h1, h4 (i % 8) (Nat.mod_lt _ (by decide))]
    exact r7 i a1 a2
theorem rO_c {C C' X X' : Mm} {no : Nat} (h : rO C X no) (h0 : C' 72 = C 72) (h1 : C' 73 = C 73) (h2 : C' 74 = C 74) (h3 : X' 75 0 = X 75 0) (h4 : ∀ i, i < 60 → X' 93 i = X 93 i ∧ X' 92 i = X 92 i) : rO C' X' no := by
  obtain ⟨r1, r2, r3, r4, r5⟩ := h
  refine ⟨r1, ?_, ?_, ?_, ?_⟩
  · rw [h0]; exact r2
  · rw [h0]; exact r3
  · rw [h3]; exact r4
  · intro i hi
    obtain ⟨e1, e2⟩ := h4 i (by omega)
    rw [h1, h2, e1, e2]
    exact r5 i hi
-- the row of numbers
theorem ap {C : Mm} {r n l : Nat} {v o : Int32} (h : C r 1 = nI l) (hl : l + 1 < 2 ^ 31) (h0 : 0 < n) (hn : n < 2 ^ 31) : ok_R_append C r n v o ∧ f_R_append C r n v o = (nI (l + 1), u2 (u2 (u2 C r 1 (nI (l + 1))) (r + 1) ((l + 1) % n) v) (r + 2) ((l + 1) % n) o) := by
  have e1 : m_R_append_1 C r n v o = u2 C r 1 (nI (l + 1)) := by
    unfold m_R_append_1
    rw [h, nI_1]
  have e1' : m_R_append_1 C r n v o r 1 = nI (l + 1) := by rw [e1, u2_s]
  have e2 : m_R_append_2 C r n v o = u2 (u2 C r 1 (nI (l + 1))) (r + 1) ((l + 1) % n) v := by
    unfold m_R_append_2
    rw [e1', slot_tn hl h0 hn, e1]
  have e2' : m_R_append_2 C r n v o r 1 = nI (l + 1) := by rw [e2, u2_k (by omega), u2_s]
  have e3 : m_R_append_3 C r n v o = u2 (u2 (u2 C r 1 (nI (l + 1))) (r + 1) ((l + 1) % n) v) (r + 2) ((l + 1) % n) o := by
    unfold m_R_append_3
    rw [e2', slot_tn hl h0 hn, e2]
  refine ⟨?_, ?_⟩
  · unfold ok_R_append
    rw [e1', e2']
    exact ⟨(oks_nI hl h0 hn).1, (oks_nI hl h0 hn).2, (oks_nI hl h0 hn).1, (oks_nI hl h0 hn).2⟩
  · unfold f_R_append
    rw [e3, u2_k (by omega), u2_k (by omega), u2_s]
theorem fullR {C : Mm} {r n g l : Nat} (h0 : C r 0 = nI g) (h1 : C r 1 = nI l) (hgl : g ≤ l) (hl : l < 2 ^ 31) (hn : n < 2 ^ 31) : f_R_isFull C r n = if l - g < n then 0 else 1 := by
  unfold f_R_isFull f_R_count
  rw [h0, h1, pk_sub hgl]
  by_cases h : l - g < n
  · rw [if_pos h, if_pos (nI_lt h hn)]
  · rw [if_neg h, if_neg (nI_nlt (by omega) (by omega))]

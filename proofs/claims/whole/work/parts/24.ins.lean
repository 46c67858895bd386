-- AN INSTRUCTION on the row of eleven
def st3 (f g : Nat → Int32) (pl ag tk pt : Int32) (u : Nat → Int32) : Prop := (∀ j, j < 4 → f j = u j) ∧ (∀ j, j < 3 → g j = u (4 + j)) ∧ pl = u 7 ∧ ag = u 8 ∧ tk = u 9 ∧ pt = u 10
theorem st3_v {f g : Nat → Int32} {pl ag tk pt : Int32} {u v : Nat → Int32} (h : st3 f g pl ag tk pt u) (hv : ∀ j, j < 11 → v j = u j) : st3 f g pl ag tk pt v := by
  obtain ⟨h1, h2, h3, h4, h5, h6⟩ := h
  exact ⟨fun j hj => (h1 j hj).trans (hv j (by omega)).symm, fun j hj => (h2 j hj).trans (hv _ (by omega)).symm, h3.trans (hv 7 (by omega)).symm, h4.trans (hv 8 (by omega)).symm, h5.trans (hv 9 (by omega)).symm, h6.trans (hv 10 (by omega)).symm⟩
theorem upd_cg {f g : Nat → Int32} {k j : Nat} {x : Int32} (h : f j = g j) : upd f k x j = upd g k x j := by
  unfold upd
  by_cases e : j = k
  · rw [if_pos e, if_pos e]
  · rw [if_neg e, if_neg e, h]
theorem bas_o {op a b : Int32} {u : Nat → Int32} {j : Nat} (h7 : j ≠ 7) (h8 : j ≠ 8) : bas op a b u j = u j := by
  unfold bas
  rw [pk_un h7, pk_un h8]
theorem bas_7 {op a b : Int32} {u : Nat → Int32} : bas op a b u 7 = plc op a b u := pk_us
theorem bas_8 {op a b : Int32} {u : Nat → Int32} : bas op a b u 8 = u 8 + 1 := by
  unfold bas
  rw [pk_un (by decide), pk_us]
theorem plc_s {op a b : Int32} {u : Nat → Int32} (h4 : ¬ op = 4) (h3 : ¬ op = 3) : plc op a b u = u 7 + 1 := by
  unfold plc
  rw [if_neg h4, if_neg h3]
section ST
variable {f g : Nat → Int32} {pl ag tk pt a b val org : Int32} {u : Nat → Int32} {x y : Nat}
theorem nxt_0 : nxt 0 a b val org u = upd (bas 0 a b u) a.toNatClampNeg b := if_pos rfl
theorem nxt_1 : nxt 1 a b val org u = upd (bas 1 a b u) a.toNatClampNeg (u a.toNatClampNeg + u b.toNatClampNeg) := by unfold nxt; rw [if_neg (by decide), if_pos rfl]
theorem nxt_2 : nxt 2 a b val org u = upd (bas 2 a b u) a.toNatClampNeg (u a.toNatClampNeg * u b.toNatClampNeg) := by unfold nxt; rw [if_neg (by decide), if_neg (by decide), if_pos rfl]
theorem nxt_3 : nxt 3 a b val org u = bas 3 a b u := by unfold nxt; rw [if_neg (by decide), if_neg (by decide), if_neg (by decide), if_pos rfl]
theorem nxt_4 : nxt 4 a b val org u = bas 4 a b u := by unfold nxt; rw [if_neg (by decide), if_neg (by decide), if_neg (by decide), if_neg (by decide), if_pos rfl]
theorem nxt_5 : nxt 5 a b val org u = upd (bas 5 a b u) (4 + a.toNatClampNeg) (u (4 + a.toNatClampNeg) + 1) := by unfold nxt; rw [if_neg (by decide), if_neg (by decide), if_neg (by decide), if_neg (by decide), if_neg (by decide), if_pos rfl]
theorem nxt_6 : nxt 6 a b val org u = upd (upd (upd (bas 6 a b u) b.toNatClampNeg org) a.toNatClampNeg val) 9 (u 9 + 1) := by unfold nxt; rw [if_neg (by decide), if_neg (by decide), if_neg (by decide), if_neg (by decide), if_neg (by decide), if_neg (by decide), if_pos rfl]
theorem nxt_7 : nxt 7 a b val org u = upd (bas 7 a b u) 10 (u 10 + 1) := by unfold nxt; rw [if_neg (by decide), if_neg (by decide), if_neg (by decide), if_neg (by decide), if_neg (by decide), if_neg (by decide), if_neg (by decide)]
/-- a register is written, the place goes on -/
theorem st_reg {op z : Int32} (h : st3 f g pl ag tk pt u) (hx : x < 4) (h4 : ¬ op = 4) (h3 : ¬ op = 3) : st3 (upd f x z) g (pl + 1) (ag + 1) tk pt (upd (bas op a b u) x z) := by
  obtain ⟨h1, h2, e3, e4, e5, e6⟩ := h
  refine ⟨fun j hj => upd_cg (by rw [bas_o (by omega) (by omega)]; exact h1 j hj), fun j hj => ?_, ?_, ?_, ?_, ?_⟩
  · rw [pk_un (by omega), bas_o (by omega) (by omega)]; exact h2 j hj
  · rw [pk_un (by omega), bas_7, plc_s h4 h3, e3]
  · rw [pk_un (by omega), bas_8, e4]
  · rw [pk_un (by omega), bas_o (by omega) (by omega)]; exact e5
  · rw [pk_un (by omega), bas_o (by omega) (by omega)]; exact e6
theorem st_0 (h : st3 f g pl ag tk pt u) (hx : x < 4) (ha : a = nI x) : st3 (upd f x b) g (pl + 1) (ag + 1) tk pt (nxt 0 a b val org u) := by
  rw [nxt_0, show a.toNatClampNeg = x by rw [ha, nI_clamp (by omega)]]
  exact st_reg h hx (by decide) (by decide)
theorem st_1 (h : st3 f g pl ag tk pt u) (hx : x < 4) (ha : a = nI x) (hy : y < 4) (hb : b = nI y) : st3 (upd f x (f x + f y)) g (pl + 1) (ag + 1) tk pt (nxt 1 a b val org u) := by
  rw [nxt_1, show a.toNatClampNeg = x by rw [ha, nI_clamp (by omega)], show b.toNatClampNeg = y by rw [hb, nI_clamp (by omega)], h.1 x hx, h.1 y hy]
  exact st_reg h hx (by decide) (by decide)
theorem st_2 (h : st3 f g pl ag tk pt u) (hx : x < 4) (ha : a = nI x) (hy : y < 4) (hb : b = nI y) : st3 (upd f x (f x * f y)) g (pl + 1) (ag + 1) tk pt (nxt 2 a b val org u) := by
  rw [nxt_2, show a.toNatClampNeg = x by rw [ha, nI_clamp (by omega)], show b.toNatClampNeg = y by rw [hb, nI_clamp (by omega)], h.1 x hx, h.1 y hy]
  exact st_reg h hx (by decide) (by decide)
/-- the place alone goes elsewhere -/
theorem st_bas {op z : Int32} (h : st3 f g pl ag tk pt u) (hz : z = plc op a b u) : st3 f g z (ag + 1) tk pt (bas op a b u) := by
  obtain ⟨h1, h2, e3, e4, e5, e6⟩ := h
  refine ⟨fun j hj => ?_, fun j hj => ?_, ?_, ?_, ?_, ?_⟩
  · rw [bas_o (by omega) (by omega)]; exact h1 j hj
  · rw [bas_o (by omega) (by omega)]; exact h2 j hj
  · rw [bas_7]; exact hz
  · rw [bas_8, e4]
  · rw [bas_o (by omega) (by omega)]; exact e5
  · rw [bas_o (by omega) (by omega)]; exact e6
theorem st_3 (h : st3 f g pl ag tk pt u) (hx : x < 4) (ha : a = nI x) (hy : y < 4) (hb : b = nI y) : st3 f g (if f y ≤ f x then pl + 1 else pl + 2) (ag + 1) tk pt (nxt 3 a b val org u) := by
  rw [nxt_3]
  refine st_bas h ?_
  unfold plc
  rw [if_neg (show ¬ (3 : Int32) = 4 by decide), if_pos (show (3 : Int32) = 3 from rfl), show a.toNatClampNeg = x by rw [ha, nI_clamp (by omega)], show b.toNatClampNeg = y by rw [hb, nI_clamp (by omega)], h.1 x hx, h.1 y hy, h.2.2.1]
theorem st_4 (h : st3 f g pl ag tk pt u) : st3 f g a (ag + 1) tk pt (nxt 4 a b val org u) := by
  rw [nxt_4]
  exact st_bas h (by unfold plc; rw [if_pos rfl])
theorem st_5 (h : st3 f g pl ag tk pt u) (hx : x < 3) (ha : a = nI x) : st3 f (upd g x (g x + 1)) (pl + 1) (ag + 1) tk pt (nxt 5 a b val org u) := by
  rw [nxt_5, show a.toNatClampNeg = x by rw [ha, nI_clamp (by omega)]]
  obtain ⟨h1, h2, e3, e4, e5, e6⟩ := h
  refine ⟨fun j hj => ?_, fun j hj => ?_, ?_, ?_, ?_, ?_⟩
  · rw [pk_un (by omega), bas_o (by omega) (by omega)]; exact h1 j hj
  · by_cases e : j = x
    · subst e; rw [pk_us, pk_us, h2 j hj]
    · rw [pk_un e, pk_un (by omega), bas_o (by omega) (by omega)]; exact h2 j hj
  · rw [pk_un (by omega), bas_7, plc_s (by decide) (by decide), e3]
  · rw [pk_un (by omega), bas_8, e4]
  · rw [pk_un (by omega), bas_o (by omega) (by omega)]; exact e5
  · rw [pk_un (by omega), bas_o (by omega) (by omega)]; exact e6
theorem st_6 (h : st3 f g pl ag tk pt u) (hx : x < 4) (ha : a = nI x) (hy : y < 4) (hb : b = nI y) : st3 (upd (upd f y org) x val) g (pl + 1) (ag + 1) (tk + 1) pt (nxt 6 a b val org u) := by
  rw [nxt_6, show a.toNatClampNeg = x by rw [ha, nI_clamp (by omega)], show b.toNatClampNeg = y by rw [hb, nI_clamp (by omega)]]
  obtain ⟨h1, h2, e3, e4, e5, e6⟩ := h
  refine ⟨fun j hj => ?_, fun j hj => ?_, ?_, ?_, ?_, ?_⟩
  · rw [pk_un (k := 9) (by omega)]
    exact upd_cg (upd_cg (by rw [bas_o (by omega) (by omega)]; exact h1 j hj))
  · rw [pk_un (by omega), pk_un (by omega), pk_un (by omega), bas_o (by omega) (by omega)]; exact h2 j hj
  · rw [pk_un (by omega), pk_un (by omega), pk_un (by omega), bas_7, plc_s (by decide) (by decide), e3]
  · rw [pk_un (by omega), pk_un (by omega), pk_un (by omega), bas_8, e4]
  · rw [pk_us, e5]
  · rw [pk_un (by omega), pk_un (by omega), pk_un (by omega), bas_o (by omega) (by omega)]; exact e6
theorem st_7 (h : st3 f g pl ag tk pt u) : st3 f g (pl + 1) (ag + 1) tk (pt + 1) (nxt 7 a b val org u) := by
  rw [nxt_7]
  obtain ⟨h1, h2, e3, e4, e5, e6⟩ := h
  refine ⟨fun j hj => ?_, fun j hj => ?_, ?_, ?_, ?_, ?_⟩
  · rw [pk_un (by omega), bas_o (by omega) (by omega)]; exact h1 j hj
  · rw [pk_un (by omega), bas_o (by omega) (by omega)]; exact h2 j hj
  · rw [pk_un (by omega), bas_7, plc_s (by decide) (by decide), e3]
  · rw [pk_un (by omega), bas_8, e4]
  · rw [pk_un (by omega), bas_o (by omega) (by omega)]; exact e5
  · rw [pk_us, e6]
end ST
theorem scr_iff {X : Mm} {u : Nat → Int32} : scr X u ↔ st3 (X 95) (X 96) (X 75 1) (X 75 4) (X 75 2) (X 75 3) u := Iff.rfl
theorem vst_iff {C : Mm} {k : Nat} {u : Nat → Int32} : vst C k u ↔ st3 (C (k + 1)) (C (k + 2)) (C k 0) (C k 1) (C k 2) (C k 3) u := Iff.rfl
theorem u2_r {I : Mm} {k j : Nat} {v : Int32} : u2 I k j v k = upd (I k) j v := by simp [u2, u1]
/-- the reference's last two writes: place and done -/
theorem fin_scr {Y : Mm} {pl : Int32} {u : Nat → Int32} (h : st3 (Y 95) (Y 96) pl (Y 75 4 + 1) (Y 75 2) (Y 75 3) u) : scr (u2 (u2 Y 75 1 pl) 75 4 ((u2 Y 75 1 pl) 75 4 + 1)) u := by
  rw [scr_iff, u2_k (by decide), u2_k (by decide), u2_k (by decide), u2_k (by decide), u2_j (by decide), u2_s, u2_s, u2_j (by decide), u2_j (by decide), u2_j (by decide), u2_j (by decide), u2_j (by decide)]
  exact h
theorem fin_k {Y : Mm} {pl z : Int32} {k : Nat} (h : k ≠ 75) : u2 (u2 Y 75 1 pl) 75 4 z k = Y k := by rw [u2_k h, u2_k h]
theorem fin_0 {Y : Mm} {pl z : Int32} : u2 (u2 Y 75 1 pl) 75 4 z 75 0 = Y 75 0 := by rw [u2_j (by decide), u2_j (by decide)]

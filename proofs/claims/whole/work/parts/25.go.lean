-- THE REFERENCE's go()
def gd (X Z : Mm) (v : Nat → Int32) : Prop := scr Z v ∧ (∀ k, k ≠ 75 → k ≠ 95 → k ≠ 96 → Z k = X k) ∧ Z 75 0 = X 75 0
theorem gd_fin {X Y : Mm} {pl : Int32} {v : Nat → Int32} (h : st3 (Y 95) (Y 96) pl (Y 75 4 + 1) (Y 75 2) (Y 75 3) v) (hk : ∀ k, k ≠ 75 → k ≠ 95 → k ≠ 96 → Y k = X k) (h0 : Y 75 0 = X 75 0) : gd X (u2 (u2 Y 75 1 pl) 75 4 ((u2 Y 75 1 pl) 75 4 + 1)) v :=
  ⟨fin_scr h, fun k h1 h2 h3 => (fin_k h1).trans (hk k h1 h2 h3), fin_0.trans h0⟩
section GO
variable {X : Mm} {p ln i x y : Nat} {x2 : Int32} {u : Nat → Int32} {val org : Int32}
theorem ix (hp : p < 3) (hi : i < 16) (h75 : X 75 1 = nI i) : ((16 * nI p) + (X 75 1)).toNatClampNeg = 16 * p + i := by
  rw [h75, show (16 : Int32) = nI 16 from rfl, pk_mul, nI_add, nI_clamp (by omega)]
theorem ix_in (hp : p < 3) (hi : i < 16) (h75 : X 75 1 = nI i) : vp_in ((16 * nI p) + (X 75 1)) 48 := by
  rw [h75, show (16 : Int32) = nI 16 from rfl, pk_mul, nI_add]
  exact vp_in_nI (by omega) (by decide)
theorem go_lt (hp : p < 3) (hi : i < ln) (hln : ln ≤ 16) (h75 : X 75 1 = nI i) (h76 : X 76 p = nI ln) : X 75 1 < X 76 (nI p).toNatClampNeg := by
  rw [nI_clamp (by omega), h75, h76]
  exact nI_lt hi (by omega)
theorem r_in {z : Int32} (hx : x < 4) (h : z = nI x) : vp_in z 4 := by rw [h]; exact vp_in_nI hx (by decide)
theorem t_of {z : Int32} (hx : x < 2 ^ 31) (h : z = nI x) : z.toNatClampNeg = x := by rw [h, nI_clamp hx]
theorem go_0 (hp : p < 3) (hi : i < ln) (hln : ln ≤ 16) (h75 : X 75 1 = nI i) (h76 : X 76 p = nI ln) (hs : scr X u) (e77 : X 77 (16 * p + i) = 0) (hx : x < 4) (ha : X 78 (16 * p + i) = nI x) : ok_X_go X (nI p) x2 ∧ ∃ Z, f_X_go X (nI p) x2 = (1, Z) ∧ gd X Z (nxt 0 (X 78 (16 * p + i)) (X 79 (16 * p + i)) val org u) := by
  have hin : vp_in (nI p) 3 := vp_in_nI hp (by decide)
  refine ⟨⟨hin, fun _ => ⟨ix_in hp (by omega) h75, ?_⟩, fun h => absurd (go_lt hp hi hln h75 h76) h⟩, m_X_go_3 X (nI p) x2, by rw [f_X_go, if_pos (go_lt hp hi hln h75 h76), ix hp (by omega) h75, e77, if_pos (show (0 : Int32) = 0 from rfl)], ?_⟩
  · rw [ix hp (by omega) h75, e77]
    exact ⟨fun _ => r_in hx ha, fun h => absurd rfl h⟩
  · unfold m_X_go_3 m_X_go_2 m_X_go_1
    rw [ix hp (by omega) h75, show (X 78 (16 * p + i)).toNatClampNeg = x from t_of (by omega) ha]
    refine gd_fin ?_ (fun k h1 h2 h3 => u2_k h2) (by rw [u2_k (by decide)])
    rw [u2_r, u2_k (by decide), u2_k (by decide)]
    exact st_0 hs hx ha
theorem go_1 (hp : p < 3) (hi : i < ln) (hln : ln ≤ 16) (h75 : X 75 1 = nI i) (h76 : X 76 p = nI ln) (hs : scr X u) (e77 : X 77 (16 * p + i) = 1) (hx : x < 4) (ha : X 78 (16 * p + i) = nI x) (hy : y < 4) (hb : X 79 (16 * p + i) = nI y) : ok_X_go X (nI p) x2 ∧ ∃ Z, f_X_go X (nI p) x2 = (1, Z) ∧ gd X Z (nxt 1 (X 78 (16 * p + i)) (X 79 (16 * p + i)) val org u) := by
  have hin : vp_in (nI p) 3 := vp_in_nI hp (by decide)
  refine ⟨⟨hin, fun _ => ⟨ix_in hp (by omega) h75, ?_⟩, fun h => absurd (go_lt hp hi hln h75 h76) h⟩, m_X_go_6 X (nI p) x2, by rw [f_X_go, if_pos (go_lt hp hi hln h75 h76), ix hp (by omega) h75, e77, if_neg (show ¬ (1 : Int32) = 0 by decide), if_pos (show (1 : Int32) = 1 from rfl)], ?_⟩
  · rw [ix hp (by omega) h75, e77]
    exact ⟨fun h => absurd h (by decide), fun _ => ⟨fun _ => ⟨r_in hx ha, r_in hy hb⟩, fun h => absurd rfl h⟩⟩
  · unfold m_X_go_6 m_X_go_5 m_X_go_4
    rw [ix hp (by omega) h75, show (X 78 (16 * p + i)).toNatClampNeg = x from t_of (by omega) ha, show (X 79 (16 * p + i)).toNatClampNeg = y from t_of (by omega) hb]
    refine gd_fin ?_ (fun k h1 h2 h3 => u2_k h2) (by rw [u2_k (by decide)])
    rw [u2_r, u2_k (by decide), u2_k (by decide)]
    exact st_1 hs hx ha hy hb
theorem go_2 (hp : p < 3) (hi : i < ln) (hln : ln ≤ 16) (h75 : X 75 1 = nI i) (h76 : X 76 p = nI ln) (hs : scr X u) (e77 : X 77 (16 * p + i) = 2) (hx : x < 4) (ha : X 78 (16 * p + i) = nI x) (hy : y < 4) (hb : X 79 (16 * p + i) = nI y) : ok_X_go X (nI p) x2 ∧ ∃ Z, f_X_go X (nI p) x2 = (1, Z) ∧ gd X Z (nxt 2 (X 78 (16 * p + i)) (X 79 (16 * p + i)) val org u) := by
  have hin : vp_in (nI p) 3 := vp_in_nI hp (by decide)
  refine ⟨⟨hin, fun _ => ⟨ix_in hp (by omega) h75, ?_⟩, fun h => absurd (go_lt hp hi hln h75 h76) h⟩, m_X_go_9 X (nI p) x2, by rw [f_X_go, if_pos (go_lt hp hi hln h75 h76), ix hp (by omega) h75, e77, if_neg (show ¬ (2 : Int32) = 0 by decide), if_neg (show ¬ (2 : Int32) = 1 by decide), if_pos (show (2 : Int32) = 2 from rfl)], ?_⟩
  · rw [ix hp (by omega) h75, e77]
    exact ⟨fun h => absurd h (by decide), fun _ => ⟨fun h => absurd h (by decide), fun _ => ⟨fun _ => ⟨r_in hx ha, r_in hy hb⟩, fun h => absurd rfl h⟩⟩⟩
  · unfold m_X_go_9 m_X_go_8 m_X_go_7
    rw [ix hp (by omega) h75, show (X 78 (16 * p + i)).toNatClampNeg = x from t_of (by omega) ha, show (X 79 (16 * p + i)).toNatClampNeg = y from t_of (by omega) hb]
    refine gd_fin ?_ (fun k h1 h2 h3 => u2_k h2) (by rw [u2_k (by decide)])
    rw [u2_r, u2_k (by decide), u2_k (by decide)]
    exact st_2 hs hx ha hy hb
theorem go_3a (hp : p < 3) (hi : i < ln) (hln : ln ≤ 16) (h75 : X 75 1 = nI i) (h76 : X 76 p = nI ln) (hs : scr X u) (e77 : X 77 (16 * p + i) = 3) (hx : x < 4) (ha : X 78 (16 * p + i) = nI x) (hy : y < 4) (hb : X 79 (16 * p + i) = nI y) (hc : X 95 y ≤ X 95 x) : ok_X_go X (nI p) x2 ∧ ∃ Z, f_X_go X (nI p) x2 = (1, Z) ∧ gd X Z (nxt 3 (X 78 (16 * p + i)) (X 79 (16 * p + i)) val org u) := by
  have hin : vp_in (nI p) 3 := vp_in_nI hp (by decide)
  refine ⟨⟨hin, fun _ => ⟨ix_in hp (by omega) h75, ?_⟩, fun h => absurd (go_lt hp hi hln h75 h76) h⟩, m_X_go_11 X (nI p) x2, by rw [f_X_go, if_pos (go_lt hp hi hln h75 h76), ix hp (by omega) h75, e77, if_neg (show ¬ (3 : Int32) = 0 by decide), if_neg (show ¬ (3 : Int32) = 1 by decide), if_neg (show ¬ (3 : Int32) = 2 by decide), if_pos (show (3 : Int32) = 3 from rfl), show (X 78 (16 * p + i)).toNatClampNeg = x from t_of (by omega) ha, show (X 79 (16 * p + i)).toNatClampNeg = y from t_of (by omega) hb, if_pos hc], ?_⟩
  · rw [ix hp (by omega) h75, e77]
    exact ⟨fun h => absurd h (by decide), fun _ => ⟨fun h => absurd h (by decide), fun _ => ⟨fun h => absurd h (by decide), fun _ => ⟨fun _ => ⟨r_in hx ha, r_in hy hb⟩, fun h => absurd rfl h⟩⟩⟩⟩
  · unfold m_X_go_11 m_X_go_10
    have h := st_3 (val := val) (org := org) hs hx ha hy hb
    rw [if_pos hc] at h
    exact gd_fin h (fun k _ _ _ => rfl) rfl
theorem go_3b (hp : p < 3) (hi : i < ln) (hln : ln ≤ 16) (h75 : X 75 1 = nI i) (h76 : X 76 p = nI ln) (hs : scr X u) (e77 : X 77 (16 * p + i) = 3) (hx : x < 4) (ha : X 78 (16 * p + i) = nI x) (hy : y < 4) (hb : X 79 (16 * p + i) = nI y) (hc : ¬ X 95 y ≤ X 95 x) : ok_X_go X (nI p) x2 ∧ ∃ Z, f_X_go X (nI p) x2 = (1, Z) ∧ gd X Z (nxt 3 (X 78 (16 * p + i)) (X 79 (16 * p + i)) val org u) := by
  have hin : vp_in (nI p) 3 := vp_in_nI hp (by decide)
  refine ⟨⟨hin, fun _ => ⟨ix_in hp (by omega) h75, ?_⟩, fun h => absurd (go_lt hp hi hln h75 h76) h⟩, m_X_go_13 X (nI p) x2, by rw [f_X_go, if_pos (go_lt hp hi hln h75 h76), ix hp (by omega) h75, e77, if_neg (show ¬ (3 : Int32) = 0 by decide), if_neg (show ¬ (3 : Int32) = 1 by decide), if_neg (show ¬ (3 : Int32) = 2 by decide), if_pos (show (3 : Int32) = 3 from rfl), show (X 78 (16 * p + i)).toNatClampNeg = x from t_of (by omega) ha, show (X 79 (16 * p + i)).toNatClampNeg = y from t_of (by omega) hb, if_neg hc], ?_⟩
  · rw [ix hp (by omega) h75, e77]
    exact ⟨fun h => absurd h (by decide), fun _ => ⟨fun h => absurd h (by decide), fun _ => ⟨fun h => absurd h (by decide), fun _ => ⟨fun _ => ⟨r_in hx ha, r_in hy hb⟩, fun h => absurd rfl h⟩⟩⟩⟩
  · unfold m_X_go_13 m_X_go_12
    have h := st_3 (val := val) (org := org) hs hx ha hy hb
    rw [if_neg hc] at h
    exact gd_fin h (fun k _ _ _ => rfl) rfl
theorem go_4 (hp : p < 3) (hi : i < ln) (hln : ln ≤ 16) (h75 : X 75 1 = nI i) (h76 : X 76 p = nI ln) (hs : scr X u) (e77 : X 77 (16 * p + i) = 4)  : ok_X_go X (nI p) x2 ∧ ∃ Z, f_X_go X (nI p) x2 = (1, Z) ∧ gd X Z (nxt 4 (X 78 (16 * p + i)) (X 79 (16 * p + i)) val org u) := by
  have hin : vp_in (nI p) 3 := vp_in_nI hp (by decide)
  refine ⟨⟨hin, fun _ => ⟨ix_in hp (by omega) h75, ?_⟩, fun h => absurd (go_lt hp hi hln h75 h76) h⟩, m_X_go_15 X (nI p) x2, by rw [f_X_go, if_pos (go_lt hp hi hln h75 h76), ix hp (by omega) h75, e77, if_neg (show ¬ (4 : Int32) = 0 by decide), if_neg (show ¬ (4 : Int32) = 1 by decide), if_neg (show ¬ (4 : Int32) = 2 by decide), if_neg (show ¬ (4 : Int32) = 3 by decide), if_pos (show (4 : Int32) = 4 from rfl)], ?_⟩
  · rw [ix hp (by omega) h75, e77]
    exact ⟨fun h => absurd h (by decide), fun _ => ⟨fun h => absurd h (by decide), fun _ => ⟨fun h => absurd h (by decide), fun _ => ⟨fun h => absurd h (by decide), fun _ => ⟨fun _ => trivial, fun h => absurd rfl h⟩⟩⟩⟩⟩
  · unfold m_X_go_15 m_X_go_14
    rw [ix hp (by omega) h75]
    exact gd_fin (st_4 hs) (fun k _ _ _ => rfl) rfl
theorem go_5 (hp : p < 3) (hi : i < ln) (hln : ln ≤ 16) (h75 : X 75 1 = nI i) (h76 : X 76 p = nI ln) (hs : scr X u) (e77 : X 77 (16 * p + i) = 5) (hx : x < 3) (ha : X 78 (16 * p + i) = nI x) : ok_X_go X (nI p) 1 ∧ ∃ Z, f_X_go X (nI p) 1 = (1, Z) ∧ gd X Z (nxt 5 (X 78 (16 * p + i)) (X 79 (16 * p + i)) val org u) := by
  have hin : vp_in (nI p) 3 := vp_in_nI hp (by decide)
  refine ⟨⟨hin, fun _ => ⟨ix_in hp (by omega) h75, ?_⟩, fun h => absurd (go_lt hp hi hln h75 h76) h⟩, m_X_go_18 X (nI p) 1, by rw [f_X_go, if_pos (go_lt hp hi hln h75 h76), ix hp (by omega) h75, e77, if_neg (show ¬ (5 : Int32) = 0 by decide), if_neg (show ¬ (5 : Int32) = 1 by decide), if_neg (show ¬ (5 : Int32) = 2 by decide), if_neg (show ¬ (5 : Int32) = 3 by decide), if_neg (show ¬ (5 : Int32) = 4 by decide), if_pos (show (5 : Int32) = 5 from rfl), if_neg (show ¬ (1 : Int32) = 0 by decide)], ?_⟩
  · rw [ix hp (by omega) h75, e77]
    exact ⟨fun h => absurd h (by decide), fun _ => ⟨fun h => absurd h (by decide), fun _ => ⟨fun h => absurd h (by decide), fun _ => ⟨fun h => absurd h (by decide), fun _ => ⟨fun h => absurd h (by decide), fun _ => ⟨fun _ => ⟨fun h => absurd h (by decide), fun _ => by rw [ha]; exact vp_in_nI hx (by decide)⟩, fun h => absurd rfl h⟩⟩⟩⟩⟩⟩
  · unfold m_X_go_18 m_X_go_17 m_X_go_16
    rw [ix hp (by omega) h75, show (X 78 (16 * p + i)).toNatClampNeg = x from t_of (by omega) ha]
    refine gd_fin ?_ (fun k h1 h2 h3 => u2_k h3) (by rw [u2_k (by decide)])
    rw [u2_r, u2_k (by decide), u2_k (by decide)]
    exact st_5 hs hx ha
theorem go_7 (hp : p < 3) (hi : i < ln) (hln : ln ≤ 16) (h75 : X 75 1 = nI i) (h76 : X 76 p = nI ln) (hs : scr X u) (e77 : X 77 (16 * p + i) = 7) (hx : x < 4) (ha : X 78 (16 * p + i) = nI x) : ok_X_go X (nI p) 1 ∧ ∃ Z, f_X_go X (nI p) 1 = (1, Z) ∧ gd X Z (nxt 7 (X 78 (16 * p + i)) (X 79 (16 * p + i)) val org u) := by
  have hin : vp_in (nI p) 3 := vp_in_nI hp (by decide)
  refine ⟨⟨hin, fun _ => ⟨ix_in hp (by omega) h75, ?_⟩, fun h => absurd (go_lt hp hi hln h75 h76) h⟩, m_X_go_29 X (nI p) 1, by rw [f_X_go, if_pos (go_lt hp hi hln h75 h76), ix hp (by omega) h75, e77, if_neg (show ¬ (7 : Int32) = 0 by decide), if_neg (show ¬ (7 : Int32) = 1 by decide), if_neg (show ¬ (7 : Int32) = 2 by decide), if_neg (show ¬ (7 : Int32) = 3 by decide), if_neg (show ¬ (7 : Int32) = 4 by decide), if_neg (show ¬ (7 : Int32) = 5 by decide), if_neg (show ¬ (7 : Int32) = 6 by decide), if_neg (show ¬ (1 : Int32) = 0 by decide)], ?_⟩
  · rw [ix hp (by omega) h75, e77]
    exact ⟨fun h => absurd h (by decide), fun _ => ⟨fun h => absurd h (by decide), fun _ => ⟨fun h => absurd h (by decide), fun _ => ⟨fun h => absurd h (by decide), fun _ => ⟨fun h => absurd h (by decide), fun _ => ⟨fun h => absurd h (by decide), fun _ => ⟨fun h => absurd h (by decide), fun _ => ⟨fun h => absurd h (by decide), fun _ => trivial⟩⟩⟩⟩⟩⟩⟩⟩
  · unfold m_X_go_29 m_X_go_28 m_X_go_27
    refine gd_fin ?_ (fun k h1 h2 h3 => u2_k h1) (by rw [u2_j (by decide)])
    rw [u2_k (by decide), u2_k (by decide), u2_j (by decide), u2_j (by decide), u2_s]
    exact st_7 hs
theorem go_6 (hp : p < 3) (hi : i < ln) (hln : ln ≤ 16) (h75 : X 75 1 = nI i) (h76 : X 76 p = nI ln) (hs : scr X u) (e77 : X 77 (16 * p + i) = 6) (hx : x < 4) (ha : X 78 (16 * p + i) = nI x) (hy : y < 4) (hb : X 79 (16 * p + i) = nI y) {t tt : Nat} (h2 : X 75 2 = nI t) (h86 : X 86 p = nI tt) (ht : t < tt) (htt : tt ≤ 512) : ok_X_go X (nI p) x2 ∧ ∃ Z, f_X_go X (nI p) x2 = (1, Z) ∧ gd X Z (nxt 6 (X 78 (16 * p + i)) (X 79 (16 * p + i)) (X 87 (512 * p + t)) (X 88 (512 * p + t)) u) := by
  have hin : vp_in (nI p) 3 := vp_in_nI hp (by decide)
  have hne : ¬ X 75 2 = X 86 (nI p).toNatClampNeg := by
    rw [nI_clamp (by omega), h2, h86]
    exact fun h => Nat.ne_of_lt ht ((nI_eq (by omega) (by omega)).mp h)
  have e5 : (512 * nI p) + X 75 2 = nI (512 * p + t) := by rw [h2, show (512 : Int32) = nI 512 from rfl, pk_mul, nI_add]
  have e5' : ((512 * nI p) + X 75 2).toNatClampNeg = 512 * p + t := by rw [e5, nI_clamp (by omega)]
  have i5 : vp_in ((512 * nI p) + X 75 2) 1536 := by rw [e5]; exact vp_in_nI (by omega) (by decide)
  have m22 : m_X_go_22 X (nI p) x2 = u2 X 95 y (X 88 (512 * p + t)) := by
    unfold m_X_go_22
    rw [ix hp (by omega) h75, show (X 79 (16 * p + i)).toNatClampNeg = y from t_of (by omega) hb, e5']
  have m22' : m_X_go_22 X (nI p) x2 75 2 = X 75 2 := by rw [m22, u2_k (by decide)]
  refine ⟨⟨hin, fun _ => ⟨ix_in hp (by omega) h75, ?_⟩, fun h => absurd (go_lt hp hi hln h75 h76) h⟩, m_X_go_26 X (nI p) x2, by rw [f_X_go, if_pos (go_lt hp hi hln h75 h76), ix hp (by omega) h75, e77, if_neg (show ¬ (6 : Int32) = 0 by decide), if_neg (show ¬ (6 : Int32) = 1 by decide), if_neg (show ¬ (6 : Int32) = 2 by decide), if_neg (show ¬ (6 : Int32) = 3 by decide), if_neg (show ¬ (6 : Int32) = 4 by decide), if_neg (show ¬ (6 : Int32) = 5 by decide), if_pos (show (6 : Int32) = 6 from rfl), if_neg hne], ?_⟩
  · rw [ix hp (by omega) h75, e77, m22']
    exact ⟨fun h => absurd h (by decide), fun _ => ⟨fun h => absurd h (by decide), fun _ => ⟨fun h => absurd h (by decide), fun _ => ⟨fun h => absurd h (by decide), fun _ => ⟨fun h => absurd h (by decide), fun _ => ⟨fun h => absurd h (by decide), fun _ => ⟨fun _ => ⟨fun h => absurd h hne, fun _ => ⟨i5, r_in hy hb, i5, r_in hx ha⟩⟩, fun h => absurd rfl h⟩⟩⟩⟩⟩⟩⟩
  · unfold m_X_go_26 m_X_go_25 m_X_go_24 m_X_go_23
    rw [m22', m22, e5', ix hp (by omega) h75, show (X 78 (16 * p + i)).toNatClampNeg = x from t_of (by omega) ha]
    refine gd_fin ?_ (fun k h1 h2 h3 => by rw [u2_k h1, u2_k h2, u2_k h2]) (by rw [u2_j (by decide), u2_k (by decide), u2_k (by decide)])
    rw [u2_k (a := 95) (k := 75) (by decide), u2_r, u2_r, u2_k (a := 96) (by decide), u2_k (a := 96) (by decide), u2_k (a := 96) (by decide), u2_j (b := 4) (by decide), u2_j (b := 3) (by decide), u2_s, u2_k (a := 75) (by decide), u2_k (a := 75) (by decide), u2_k (a := 87) (by decide)]
    exact st_6 hs hx ha hy hb
theorem go_end (hp : p < 3) (h : ¬ X 75 1 < X 76 (nI p).toNatClampNeg) : ok_X_go X (nI p) x2 ∧ f_X_go X (nI p) x2 = (2, X) :=
  ⟨⟨vp_in_nI hp (by decide), fun h1 => absurd h1 h, fun _ => trivial⟩, by rw [f_X_go, if_neg h]⟩
theorem go_6w (hp : p < 3) (hi : i < ln) (hln : ln ≤ 16) (h75 : X 75 1 = nI i) (h76 : X 76 p = nI ln) (e77 : X 77 (16 * p + i) = 6) (he : X 75 2 = X 86 (nI p).toNatClampNeg) : ok_X_go X (nI p) x2 ∧ f_X_go X (nI p) x2 = (0, X) := by
  refine ⟨⟨vp_in_nI hp (by decide), fun _ => ⟨ix_in hp (by omega) h75, ?_⟩, fun h => absurd (go_lt hp hi hln h75 h76) h⟩, by rw [f_X_go, if_pos (go_lt hp hi hln h75 h76), ix hp (by omega) h75, e77, if_neg (show ¬ (6 : Int32) = 0 by decide), if_neg (show ¬ (6 : Int32) = 1 by decide), if_neg (show ¬ (6 : Int32) = 2 by decide), if_neg (show ¬ (6 : Int32) = 3 by decide), if_neg (show ¬ (6 : Int32) = 4 by decide), if_neg (show ¬ (6 : Int32) = 5 by decide), if_pos (show (6 : Int32) = 6 from rfl), if_pos he]⟩
  rw [ix hp (by omega) h75, e77]
  exact ⟨fun h => absurd h (by decide), fun _ => ⟨fun h => absurd h (by decide), fun _ => ⟨fun h => absurd h (by decide), fun _ => ⟨fun h => absurd h (by decide), fun _ => ⟨fun h => absurd h (by decide), fun _ => ⟨fun h => absurd h (by decide), fun _ => ⟨fun _ => ⟨fun _ => trivial, fun h => absurd he h⟩, fun h => absurd rfl h⟩⟩⟩⟩⟩⟩⟩
end GO
/-- done again: what the step says happens -/
theorem go1 {X : Mm} {p ln tt : Nat} {u v : Nat → Int32} (hp : p < 3) (hln : ln ≤ 16) (h76 : X 76 p = nI ln) (hop : ∀ i, i < ln → opv p (X 77 (16 * p + i)) (X 78 (16 * p + i)) (X 79 (16 * p + i))) (h86 : X 86 p = nI tt) (htt : tt ≤ 512) (hs : scr X u) (h : stp X p ln tt u v) : ok_X_go X (nI p) 1 ∧ ∃ Z, f_X_go X (nI p) 1 = (1, Z) ∧ gd X Z v := by
  obtain ⟨i, hi, hu, t, ht, hv⟩ := h
  have h75 : X 75 1 = nI i := hs.2.2.1.trans hu
  have fin : ∀ {val org : Int32} {w : Nat → Int32}, (∀ j, j < 11 → v j = w j) → (ok_X_go X (nI p) 1 ∧ ∃ Z, f_X_go X (nI p) 1 = (1, Z) ∧ gd X Z w) → (ok_X_go X (nI p) 1 ∧ ∃ Z, f_X_go X (nI p) 1 = (1, Z) ∧ gd X Z v) := by
    intro _ _ w hw ⟨k1, Z, k2, k3, k4⟩
    exact ⟨k1, Z, k2, st3_v k3 hw, k4⟩
  rcases hop i hi with ⟨e, x, hx, ha⟩ | ⟨e, x, y, hx, hy, ha, hb⟩ | ⟨e, x, hx, ha⟩ | ⟨e, x, y, hx, hxp, hy, ha, hb⟩ | ⟨e, x, hx, ha⟩
  · rw [e] at hv
    exact fin (val := 0) (org := 0) hv (go_0 hp hi hln h75 h76 hs e hx ha)
  · rcases e with e | e | e | e
    · rw [e] at hv
      exact fin (val := 0) (org := 0) hv (go_1 hp hi hln h75 h76 hs e hx ha hy hb)
    · rw [e] at hv
      exact fin (val := 0) (org := 0) hv (go_2 hp hi hln h75 h76 hs e hx ha hy hb)
    · rw [e] at hv
      by_cases hc : X 95 y ≤ X 95 x
      · exact fin (val := 0) (org := 0) hv (go_3a hp hi hln h75 h76 hs e hx ha hy hb hc)
      · exact fin (val := 0) (org := 0) hv (go_3b hp hi hln h75 h76 hs e hx ha hy hb hc)
    · obtain ⟨ht1, ht2⟩ := ht e
      rw [e] at hv
      exact fin (val := 0) (org := 0) hv (go_6 hp hi hln h75 h76 hs e hx ha hy hb (hs.2.2.2.2.1.trans ht2) h86 ht1 htt)
  · rw [e] at hv
    exact fin (val := 0) (org := 0) hv (go_4 hp hi hln h75 h76 hs e)
  · rw [e] at hv
    exact fin (val := 0) (org := 0) hv (go_5 hp hi hln h75 h76 hs e hx ha)
  · rw [e] at hv
    exact fin (val := 0) (org := 0) hv (go_7 hp hi hln h75 h76 hs e hx ha)

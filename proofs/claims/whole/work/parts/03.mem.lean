-- THE MEMORY: the 97 cells of the class (0..74) and of the reference (75..96), at addresses 'ad'; what they hold is ints alone: I (cell, place)
abbrev Mm : Type := Nat → Nat → Int32
def u1 (I : Mm) (k : Nat) (f : Nat → Int32) : Mm := fun a => if a = k then f else I a
def u2 (I : Mm) (k j : Nat) (v : Int32) : Mm := u1 I k (upd (I k) j v)
theorem u1_s {I : Mm} {k : Nat} {f : Nat → Int32} : u1 I k f k = f := by simp [u1]
theorem u1_n {I : Mm} {k a : Nat} {f : Nat → Int32} (h : a ≠ k) : u1 I k f a = I a := by simp [u1, h]
theorem u2_s {I : Mm} {k j : Nat} {v : Int32} : u2 I k j v k j = v := by simp [u2, u1, upd]
theorem u2_k {I : Mm} {k a j : Nat} {v : Int32} (h : a ≠ k) : u2 I k j v a = I a := by simp [u2, u1, h]
theorem u2_j {I : Mm} {k j b : Nat} {v : Int32} (h : b ≠ j) : u2 I k j v k b = I k b := by simp [u2, u1, upd, h]
-- kinds: .inl 0 the group, 1 a member, 2 a program, 3 a state, 4 a row, 5 the reference, 6 the members' array, 7 the channels' array, 8 a boolean[3]; .inr n an int[n]
def kdl : List (Nat ⊕ Nat) := [.inl 0, .inl 6, .inl 1, .inl 2, .inr 16, .inr 16, .inr 16, .inl 3, .inr 4, .inr 3, .inl 3, .inr 4, .inr 3, .inl 4, .inr 20, .inr 20, .inl 1, .inl 2, .inr 16, .inr 16, .inr 16, .inl 3, .inr 4, .inr 3, .inl 3, .inr 4, .inr 3, .inl 4, .inr 20, .inr 20, .inl 1, .inl 2, .inr 16, .inr 16, .inr 16, .inl 3, .inr 4, .inr 3, .inl 3, .inr 4, .inr 3, .inl 4, .inr 20, .inr 20, .inl 7, .inl 4, .inr 8, .inr 8, .inl 4, .inr 8, .inr 8, .inl 4, .inr 8, .inr 8, .inl 4, .inr 8, .inr 8, .inl 4, .inr 8, .inr 8, .inl 4, .inr 8, .inr 8, .inl 4, .inr 8, .inr 8, .inl 4, .inr 8, .inr 8, .inl 4, .inr 8, .inr 8, .inl 4, .inr 60, .inr 60, .inl 5, .inr 3, .inr 48, .inr 48, .inr 48, .inl 8, .inr 3, .inr 3, .inr 3, .inl 8, .inr 3, .inr 3, .inr 1536, .inr 1536, .inr 9, .inr 9, .inr 72, .inr 60, .inr 60, .inr 3, .inr 4, .inr 3]
def kd (k : Nat) : Nat ⊕ Nat := kdl.getD k (.inr 0)
def tyl (cs : Nat → ClassId) : List (ClassId × FieldType) := [(cs 0, .int), (cs 1, .boolean), (cs 2, .object RX0), (cs 3, .object RX1)]
def gs (cs : Nat → ClassId) (ad : Nat → Nat) (I : Mm) (k : Nat) : va_E := match kd k with
  | .inr n => .inl (cs 0, n, .inl (I k))
  | .inl 0 => .inr (4, [.ref (ad 1), .ref (ad 44), .ref (ad 72)])
  | .inl 1 => .inr (0, [.ref (ad (k + 1)), .ref (ad (k + 5)), .ref (ad (k + 8)), .ref (ad (k + 11)), .int (I k 0), .int (I k 1), .int (I k 2), .int (I k 3)])
  | .inl 2 => .inr (2, [.ref (ad (k + 1)), .ref (ad (k + 2)), .ref (ad (k + 3)), .int (I k 0)])
  | .inl 3 => .inr (3, [.ref (ad (k + 1)), .ref (ad (k + 2)), .int (I k 0), .int (I k 1), .int (I k 2), .int (I k 3)])
  | .inl 4 => .inr (1, [.ref (ad (k + 1)), .ref (ad (k + 2)), .int (I k 0), .int (I k 1)])
  | .inl 5 => .inr (5, [.ref (ad 76), .ref (ad 77), .ref (ad 78), .ref (ad 79), .ref (ad 80), .ref (ad 81), .ref (ad 82), .ref (ad 83), .ref (ad 84), .ref (ad 85), .ref (ad 86), .ref (ad 87), .ref (ad 88), .ref (ad 89), .ref (ad 90), .ref (ad 91), .int (I k 0), .ref (ad 92), .ref (ad 93), .ref (ad 94), .ref (ad 95), .ref (ad 96), .int (I k 1), .int (I k 2), .int (I k 3), .int (I k 4)])
  | .inl 6 => .inl (cs 2, 3, .inr (.inr (.inr (.inr (fun i => some (ad (2 + 14 * i)))))))
  | .inl 7 => .inl (cs 3, 9, .inr (.inr (.inr (.inr (fun i => some (ad (45 + 3 * i)))))))
  | .inl _ => .inl (cs 1, 3, .inl (I k))
theorem gs_congr {cs : Nat → ClassId} {ad : Nat → Nat} {I J : Mm} {a : Nat} (h : I a = J a) : gs cs ad I a = gs cs ad J a := by
  unfold gs
  rw [h]
def mw (N : Nat) (ad : Nat → Nat) (g : Nat → va_E) : va_W := (List.range N).map (fun k => (ad k, g k))
theorem mw_at {N k : Nat} {ad : Nat → Nat} {g : Nat → va_E} (h : k < N) : (mw N ad g)[k]? = some (ad k, g k) := by simp [mw, h]
theorem mw_of {N k : Nat} {ad : Nat → Nat} {g : Nat → va_E} {q : Nat × va_E} (h : (mw N ad g)[k]? = some q) : k < N ∧ q = (ad k, g k) := by
  by_cases hk : k < N
  · rw [mw_at hk] at h
    exact ⟨hk, (Option.some.inj h).symm⟩
  · simp [mw, hk] at h
theorem mw_set {N k : Nat} {ad : Nat → Nat} {g g' : Nat → va_E} {e : va_E} (hk : k < N) (h1 : g' k = e) (h2 : ∀ j, j ≠ k → g' j = g j) : (mw N ad g).set k (ad k, e) = mw N ad g' := by
  apply List.ext_getElem?
  intro i
  rw [List.getElem?_set]
  by_cases hi : k = i
  · subst hi
    rw [if_pos rfl, mw_at hk, h1]
    simp [mw, hk]
  · rw [if_neg hi]
    by_cases hN : i < N
    · rw [mw_at hN, mw_at hN, h2 i (fun h => hi h.symm)]
    · simp [mw, hN]
def mA (ad : Nat → Nat) : Nat → Prop := fun q => ∃ k, k < 97 ∧ q = ad k
def mi (ad : Nat → Nat) : Prop := ∀ i j, i < 97 → j < 97 → ad i = ad j → i = j
theorem mD {ad : Nat → Nat} {g : Nat → va_E} (h : mi ad) : va_D (mA ad) (mw 97 ad g) := by
  refine ⟨fun i j p q hp hq e => ?_, fun k q hq => ?_⟩
  · obtain ⟨h1, rfl⟩ := mw_of hp
    obtain ⟨h2, rfl⟩ := mw_of hq
    exact h i j h1 h2 e
  · obtain ⟨h1, rfl⟩ := mw_of hq
    exact ⟨k, h1, rfl⟩
def isA (k n : Nat) : Prop := k < 97 ∧ kd k = .inr n
def isO (k c : Nat) : Prop := k < 97 ∧ kd k = .inl c
theorem mq_A {cs : Nat → ClassId} {ad : Nat → Nat} {I : Mm} {k n : Nat} (h : isA k n) : (mw 97 ad (gs cs ad I))[k]? = some (ad k, .inl (cs 0, n, .inl (I k))) := by
  rw [mw_at h.1, gs, h.2] <;> rfl
theorem mq_Z {cs : Nat → ClassId} {ad : Nat → Nat} {I : Mm} {k : Nat} (h : isO k 8) : (mw 97 ad (gs cs ad I))[k]? = some (ad k, .inl (cs 1, 3, .inl (I k))) := by
  rw [mw_at h.1, gs, h.2] <;> rfl
theorem mq_G {cs : Nat → ClassId} {ad : Nat → Nat} {I : Mm} {k : Nat} (h : isO k 0) : (mw 97 ad (gs cs ad I))[k]? = some (ad k, .inr (4, [.ref (ad 1), .ref (ad 44), .ref (ad 72)])) := by
  rw [mw_at h.1, gs, h.2] <;> rfl
theorem mq_M {cs : Nat → ClassId} {ad : Nat → Nat} {I : Mm} {k : Nat} (h : isO k 1) : (mw 97 ad (gs cs ad I))[k]? = some (ad k, .inr (0, [.ref (ad (k + 1)), .ref (ad (k + 5)), .ref (ad (k + 8)), .ref (ad (k + 11)), .int (I k 0), .int (I k 1), .int (I k 2), .int (I k 3)])) := by
  rw [mw_at h.1, gs, h.2] <;> rfl
theorem mq_P {cs : Nat → ClassId} {ad : Nat → Nat} {I : Mm} {k : Nat} (h : isO k 2) : (mw 97 ad (gs cs ad I))[k]? = some (ad k, .inr (2, [.ref (ad (k + 1)), .ref (ad (k + 2)), .ref (ad (k + 3)), .int (I k 0)])) := by
  rw [mw_at h.1, gs, h.2] <;> rfl
theorem mq_S {cs : Nat → ClassId} {ad : Nat → Nat} {I : Mm} {k : Nat} (h : isO k 3) : (mw 97 ad (gs cs ad I))[k]? = some (ad k, .inr (3, [.ref (ad (k + 1)), .ref (ad (k + 2)), .int (I k 0), .int (I k 1), .int (I k 2), .int (I k 3)])) := by
  rw [mw_at h.1, gs, h.2] <;> rfl
theorem mq_R {cs : Nat → ClassId} {ad : Nat → Nat} {I : Mm} {k : Nat} (h : isO k 4) : (mw 97 ad (gs cs ad I))[k]? = some (ad k, .inr (1, [.ref (ad (k + 1)), .ref (ad (k + 2)), .int (I k 0), .int (I k 1)])) := by
  rw [mw_at h.1, gs, h.2] <;> rfl
theorem mq_X {cs : Nat → ClassId} {ad : Nat → Nat} {I : Mm} {k : Nat} (h : isO k 5) : (mw 97 ad (gs cs ad I))[k]? = some (ad k, .inr (5, [.ref (ad 76), .ref (ad 77), .ref (ad 78), .ref (ad 79), .ref (ad 80), .ref (ad 81), .ref (ad 82), .ref (ad 83), .ref (ad 84), .ref (ad 85), .ref (ad 86), .ref (ad 87), .ref (ad 88), .ref (ad 89), .ref (ad 90), .ref (ad 91), .int (I k 0), .ref (ad 92), .ref (ad 93), .ref (ad 94), .ref (ad 95), .ref (ad 96), .int (I k 1), .int (I k 2), .int (I k 3), .int (I k 4)])) := by
  rw [mw_at h.1, gs, h.2] <;> rfl
theorem mq_MA {cs : Nat → ClassId} {ad : Nat → Nat} {I : Mm} {k : Nat} (h : isO k 6) : (mw 97 ad (gs cs ad I))[k]? = some (ad k, .inl (cs 2, 3, .inr (.inr (.inr (.inr (fun i => some (ad (2 + 14 * i)))))))) := by
  rw [mw_at h.1, gs, h.2] <;> rfl
theorem mq_CA {cs : Nat → ClassId} {ad : Nat → Nat} {I : Mm} {k : Nat} (h : isO k 7) : (mw 97 ad (gs cs ad I))[k]? = some (ad k, .inl (cs 3, 9, .inr (.inr (.inr (.inr (fun i => some (ad (45 + 3 * i)))))))) := by
  rw [mw_at h.1, gs, h.2] <;> rfl
theorem ms_any {D : va_G} {cs : Nat → ClassId} {ad : Nat → Nat} {I : Mm} {k : Nat} {f : Nat → Int32} {e : va_E} {H : Heap} (hk : k < 97) (he : gs cs ad (u1 I k f) k = e) (hP : va_P D vwCl ((mw 97 ad (gs cs ad I)).set k (ad k, e)) H) : va_P D vwCl (mw 97 ad (gs cs ad (u1 I k f))) H := by
  rw [mw_set (g' := gs cs ad (u1 I k f)) hk he (fun j hj => gs_congr (u1_n hj))] at hP
  exact hP
theorem ms_A {D : va_G} {cs : Nat → ClassId} {ad : Nat → Nat} {I : Mm} {k n j : Nat} {v : Int32} {H : Heap} (h : isA k n) (hP : va_P D vwCl ((mw 97 ad (gs cs ad I)).set k (ad k, .inl (cs 0, n, .inl (upd (I k) j v)))) H) : va_P D vwCl (mw 97 ad (gs cs ad (u2 I k j v))) H :=
  ms_any h.1 (by rw [gs, h.2, u1_s]) hP
theorem ms_Ac {D : va_G} {cs : Nat → ClassId} {ad : Nat → Nat} {I : Mm} {k n : Nat} {f : Nat → Int32} {H : Heap} (h : isA k n) (hP : va_P D vwCl ((mw 97 ad (gs cs ad I)).set k (ad k, .inl (cs 0, n, .inl f))) H) : va_P D vwCl (mw 97 ad (gs cs ad (u1 I k f))) H :=
  ms_any h.1 (by rw [gs, h.2, u1_s]) hP
theorem ms_Z {D : va_G} {cs : Nat → ClassId} {ad : Nat → Nat} {I : Mm} {k j : Nat} {v : Int32} {H : Heap} (h : isO k 8) (hP : va_P D vwCl ((mw 97 ad (gs cs ad I)).set k (ad k, .inl (cs 1, 3, .inl (upd (I k) j v)))) H) : va_P D vwCl (mw 97 ad (gs cs ad (u2 I k j v))) H :=
  ms_any h.1 (by rw [gs, h.2, u1_s] <;> rfl) hP
theorem ms_M0 {D : va_G} {cs : Nat → ClassId} {ad : Nat → Nat} {I : Mm} {k : Nat} {v : Int32} {H : Heap} (h : isO k 1) (hP : va_P D vwCl ((mw 97 ad (gs cs ad I)).set k (ad k, .inr (0, [.ref (ad (k + 1)), .ref (ad (k + 5)), .ref (ad (k + 8)), .ref (ad (k + 11)), .int v, .int (I k 1), .int (I k 2), .int (I k 3)]))) H) : va_P D vwCl (mw 97 ad (gs cs ad (u2 I k 0 v))) H :=
  ms_any h.1 (by rw [gs, h.2, u1_s]; simp [upd]) hP
theorem ms_M1 {D : va_G} {cs : Nat → ClassId} {ad : Nat → Nat} {I : Mm} {k : Nat} {v : Int32} {H : Heap} (h : isO k 1) (hP : va_P D vwCl ((mw 97 ad (gs cs ad I)).set k (ad k, .inr (0, [.ref (ad (k + 1)), .ref (ad (k + 5)), .ref (ad (k + 8)), .ref (ad (k + 11)), .int (I k 0), .int v, .int (I k 2), .int (I k 3)]))) H) : va_P D vwCl (mw 97 ad (gs cs ad (u2 I k 1 v))) H :=
  ms_any h.1 (by rw [gs, h.2, u1_s]; simp [upd]) hP
theorem ms_M2 {D : va_G} {cs : Nat → ClassId} {ad : Nat → Nat} {I : Mm} {k : Nat} {v : Int32} {H : Heap} (h : isO k 1) (hP : va_P D vwCl ((mw 97 ad (gs cs ad I)).set k (ad k, .inr (0, [.ref (ad (k + 1)), .ref (ad (k + 5)), .ref (ad (k + 8)), .ref (ad (k + 11)), .int (I k 0), .int (I k 1), .int v, .int (I k 3)]))) H) : va_P D vwCl (mw 97 ad (gs cs ad (u2 I k 2 v))) H :=
  ms_any h.1 (by rw [gs, h.2, u1_s]; simp [upd]) hP
theorem ms_M3 {D : va_G} {cs : Nat → ClassId} {ad : Nat → Nat} {I : Mm} {k : Nat} {v : Int32} {H : Heap} (h : isO k 1) (hP : va_P D vwCl ((mw 97 ad (gs cs ad I)).set k (ad k, .inr (0, [.ref (ad (k + 1)), .ref (ad (k + 5)), .ref (ad (k + 8)), .ref (ad (k + 11)), .int (I k 0), .int (I k 1), .int (I k 2), .int v]))) H) : va_P D vwCl (mw 97 ad (gs cs ad (u2 I k 3 v))) H :=
  ms_any h.1 (by rw [gs, h.2, u1_s]; simp [upd]) hP
theorem ms_P0 {D : va_G} {cs : Nat → ClassId} {ad : Nat → Nat} {I : Mm} {k : Nat} {v : Int32} {H : Heap} (h : isO k 2) (hP : va_P D vwCl ((mw 97 ad (gs cs ad I)).set k (ad k, .inr (2, [.ref (ad (k + 1)), .ref (ad (k + 2)), .ref (ad (k + 3)), .int v]))) H) : va_P D vwCl (mw 97 ad (gs cs ad (u2 I k 0 v))) H :=
  ms_any h.1 (by rw [gs, h.2, u1_s]; simp [upd]) hP
theorem ms_S0 {D : va_G} {cs : Nat → ClassId} {ad : Nat → Nat} {I : Mm} {k : Nat} {v : Int32} {H : Heap} (h : isO k 3) (hP : va_P D vwCl ((mw 97 ad (gs cs ad I)).set k (ad k, .inr (3, [.ref (ad (k + 1)), .ref (ad (k + 2)), .int v, .int (I k 1), .int (I k 2), .int (I k 3)]))) H) : va_P D vwCl (mw 97 ad (gs cs ad (u2 I k 0 v))) H :=
  ms_any h.1 (by rw [gs, h.2, u1_s]; simp [upd]) hP
theorem ms_S1 {D : va_G} {cs : Nat → ClassId} {ad : Nat → Nat} {I : Mm} {k : Nat} {v : Int32} {H : Heap} (h : isO k 3) (hP : va_P D vwCl ((mw 97 ad (gs cs ad I)).set k (ad k, .inr (3, [.ref (ad (k + 1)), .ref (ad (k + 2)), .int (I k 0), .int v, .int (I k 2), .int (I k 3)]))) H) : va_P D vwCl (mw 97 ad (gs cs ad (u2 I k 1 v))) H :=
  ms_any h.1 (by rw [gs, h.2, u1_s]; simp [upd]) hP
theorem ms_S2 {D : va_G} {cs : Nat → ClassId} {ad : Nat → Nat} {I : Mm} {k : Nat} {v : Int32} {H : Heap} (h : isO k 3) (hP : va_P D vwCl ((mw 97 ad (gs cs ad I)).set k (ad k, .inr (3, [.ref (ad (k + 1)), .ref (ad (k + 2)), .int (I k 0), .int (I k 1), .int v, .int (I k 3)]))) H) : va_P D vwCl (mw 97 ad (gs cs ad (u2 I k 2 v))) H :=
  ms_any h.1 (by rw [gs, h.2, u1_s]; simp [upd]) hP
theorem ms_S3 {D : va_G} {cs : Nat → ClassId} {ad : Nat → Nat} {I : Mm} {k : Nat} {v : Int32} {H : Heap} (h : isO k 3) (hP : va_P D vwCl ((mw 97 ad (gs cs ad I)).set k (ad k, .inr (3, [.ref (ad (k + 1)), .ref (ad (k + 2)), .int (I k 0), .int (I k 1), .int (I k 2), .int v]))) H) : va_P D vwCl (mw 97 ad (gs cs ad (u2 I k 3 v))) H :=
  ms_any h.1 (by rw [gs, h.2, u1_s]; simp [upd]) hP
theorem ms_R0 {D : va_G} {cs : Nat → ClassId} {ad : Nat → Nat} {I : Mm} {k : Nat} {v : Int32} {H : Heap} (h : isO k 4) (hP : va_P D vwCl ((mw 97 ad (gs cs ad I)).set k (ad k, .inr (1, [.ref (ad (k + 1)), .ref (ad (k + 2)), .int v, .int (I k 1)]))) H) : va_P D vwCl (mw 97 ad (gs cs ad (u2 I k 0 v))) H :=
  ms_any h.1 (by rw [gs, h.2, u1_s]; simp [upd]) hP
theorem ms_R1 {D : va_G} {cs : Nat → ClassId} {ad : Nat → Nat} {I : Mm} {k : Nat} {v : Int32} {H : Heap} (h : isO k 4) (hP : va_P D vwCl ((mw 97 ad (gs cs ad I)).set k (ad k, .inr (1, [.ref (ad (k + 1)), .ref (ad (k + 2)), .int (I k 0), .int v]))) H) : va_P D vwCl (mw 97 ad (gs cs ad (u2 I k 1 v))) H :=
  ms_any h.1 (by rw [gs, h.2, u1_s]; simp [upd]) hP
theorem ms_X0 {D : va_G} {cs : Nat → ClassId} {ad : Nat → Nat} {I : Mm} {k : Nat} {v : Int32} {H : Heap} (h : isO k 5) (hP : va_P D vwCl ((mw 97 ad (gs cs ad I)).set k (ad k, .inr (5, [.ref (ad 76), .ref (ad 77), .ref (ad 78), .ref (ad 79), .ref (ad 80), .ref (ad 81), .ref (ad 82), .ref (ad 83), .ref (ad 84), .ref (ad 85), .ref (ad 86), .ref (ad 87), .ref (ad 88), .ref (ad 89), .ref (ad 90), .ref (ad 91), .int v, .ref (ad 92), .ref (ad 93), .ref (ad 94), .ref (ad 95), .ref (ad 96), .int (I k 1), .int (I k 2), .int (I k 3), .int (I k 4)]))) H) : va_P D vwCl (mw 97 ad (gs cs ad (u2 I k 0 v))) H :=
  ms_any h.1 (by rw [gs, h.2, u1_s]; simp [upd]) hP
theorem ms_X1 {D : va_G} {cs : Nat → ClassId} {ad : Nat → Nat} {I : Mm} {k : Nat} {v : Int32} {H : Heap} (h : isO k 5) (hP : va_P D vwCl ((mw 97 ad (gs cs ad I)).set k (ad k, .inr (5, [.ref (ad 76), .ref (ad 77), .ref (ad 78), .ref (ad 79), .ref (ad 80), .ref (ad 81), .ref (ad 82), .ref (ad 83), .ref (ad 84), .ref (ad 85), .ref (ad 86), .ref (ad 87), .ref (ad 88), .ref (ad 89), .ref (ad 90), .ref (ad 91), .int (I k 0), .ref (ad 92), .ref (ad 93), .ref (ad 94), .ref (ad 95), .ref (ad 96), .int v, .int (I k 2), .int (I k 3), .int (I k 4)]))) H) : va_P D vwCl (mw 97 ad (gs cs ad (u2 I k 1 v))) H :=
  ms_any h.1 (by rw [gs, h.2, u1_s]; simp [upd]) hP
theorem ms_X2 {D : va_G} {cs : Nat → ClassId} {ad : Nat → Nat} {I : Mm} {k : Nat} {v : Int32} {H : Heap} (h : isO k 5) (hP : va_P D vwCl ((mw 97 ad (gs cs ad I)).set k (ad k, .inr (5, [.ref (ad 76), .ref (ad 77), .ref (ad 78), .ref (ad 79), .ref (ad 80), .ref (ad 81), .ref (ad 82), .ref (ad 83), .ref (ad 84), .ref (ad 85), .ref (ad 86), .ref (ad 87), .ref (ad 88), .ref (ad 89), .ref (ad 90), .ref (ad 91), .int (I k 0), .ref (ad 92), .ref (ad 93), .ref (ad 94), .ref (ad 95), .ref (ad 96), .int (I k 1), .int v, .int (I k 3), .int (I k 4)]))) H) : va_P D vwCl (mw 97 ad (gs cs ad (u2 I k 2 v))) H :=
  ms_any h.1 (by rw [gs, h.2, u1_s]; simp [upd]) hP
theorem ms_X3 {D : va_G} {cs : Nat → ClassId} {ad : Nat → Nat} {I : Mm} {k : Nat} {v : Int32} {H : Heap} (h : isO k 5) (hP : va_P D vwCl ((mw 97 ad (gs cs ad I)).set k (ad k, .inr (5, [.ref (ad 76), .ref (ad 77), .ref (ad 78), .ref (ad 79), .ref (ad 80), .ref (ad 81), .ref (ad 82), .ref (ad 83), .ref (ad 84), .ref (ad 85), .ref (ad 86), .ref (ad 87), .ref (ad 88), .ref (ad 89), .ref (ad 90), .ref (ad 91), .int (I k 0), .ref (ad 92), .ref (ad 93), .ref (ad 94), .ref (ad 95), .ref (ad 96), .int (I k 1), .int (I k 2), .int v, .int (I k 4)]))) H) : va_P D vwCl (mw 97 ad (gs cs ad (u2 I k 3 v))) H :=
  ms_any h.1 (by rw [gs, h.2, u1_s]; simp [upd]) hP
theorem ms_X4 {D : va_G} {cs : Nat → ClassId} {ad : Nat → Nat} {I : Mm} {k : Nat} {v : Int32} {H : Heap} (h : isO k 5) (hP : va_P D vwCl ((mw 97 ad (gs cs ad I)).set k (ad k, .inr (5, [.ref (ad 76), .ref (ad 77), .ref (ad 78), .ref (ad 79), .ref (ad 80), .ref (ad 81), .ref (ad 82), .ref (ad 83), .ref (ad 84), .ref (ad 85), .ref (ad 86), .ref (ad 87), .ref (ad 88), .ref (ad 89), .ref (ad 90), .ref (ad 91), .int (I k 0), .ref (ad 92), .ref (ad 93), .ref (ad 94), .ref (ad 95), .ref (ad 96), .int (I k 1), .int (I k 2), .int (I k 3), .int v]))) H) : va_P D vwCl (mw 97 ad (gs cs ad (u2 I k 4 v))) H :=
  ms_any h.1 (by rw [gs, h.2, u1_s]; simp [upd]) hP
def Mb (x : Int32) : Nat := 2 + 14 * x.toNatClampNeg
def Cb (x : Int32) : Nat := 45 + 3 * x.toNatClampNeg
-- contracts over the memory
def mP (D : va_G) (cs : Nat → ClassId) (ad : Nat → Nat) (I : Mm) (U : State) : Prop := va_P D vwCl (mw 97 ad (gs cs ad I)) U.heap ∧ va_K D vwCl (tyl cs) U
def mQ (D : va_G) (cs : Nat → ClassId) (ad : Nat → Nat) (v : Option Value) (J : Mm) : Array Value → State → Outcome → State → Prop := fun _ st oc t => (oc = .returned v ∧ va_P D vwCl (mw 97 ad (gs cs ad J)) t.heap) ∧ va_F (mA ad) st t
/-- the contract: called with 'av' over the memory I, the method answers v and leaves the memory J; it makes no cell and writes none but the memory's -/
def MC (l : Launch) (y : MethodName) (ws : List Cond) (rm : Room) (D : va_G) (cs : Nat → ClassId) (ad : Nat → Nat) (av : List Value) (I : Mm) (v : Option Value) (J : Mm) : Prop := Met l y ws rm (va_Pc av (mP D cs ad I)) (mQ D cs ad v J) 0 0 (mA ad)
theorem q_enter {l : Launch} {y : MethodName} {ws ws' : List Cond} {rm : Room} {D : va_G} {cs : Nat → ClassId} {ad : Nat → Nat} {av : List Value} {I J : Mm} {v : Option Value} {cc : ByteArray} {maxL : Nat} {ret : Option FieldType} (hy : plainFor y = true) (hw : ws = Cond.code y cc maxL ret :: ws') (hn : (lg_sl av).length ≤ maxL)
    (walk : ∀ (p : Program) (e : Env) (s : State) (m : MethodId) (below : List Frame) (meth : Method) (c : Code) (ls : Array Slot), p.tables.exec = Jvm.exec → c.code = cc → meth.sig.returnType = ret → c.maxLocals = maxL → s.vm.findClass y.cls = some m.cls → (∀ w ∈ ws, w.before av.toArray s = true) → meth.locks = false → va_K D vwCl (tyl cs) s → va_P D vwCl (mw 97 ad (gs cs ad I)) s.heap → va_S (mA ad) s.heap s.heap [] → lv_has ls maxL (lv_args 0 av) → W p l e rm s m av.toArray below meth c s.heap [] 0 0 (MQ below (mQ D cs ad v J) av.toArray s 0 0 (mA ad)) (F0 m 0 ls [])) : MC l y ws rm D cs ad av I v J := by
  refine va_MetF (cc := cc) (maxL := maxL) (ret := ret) hy hw ?_
  intro p e s m args below meth c s₁ B hml hv
  obtain ⟨rfl, hP, hK⟩ := hv
  have hl := lv_entry av (n := maxL) hn
  rw [lg_entry_eq]
  exact walk p e s m below meth c _ B.exec B.bytes B.returns hml (findClass_of_methodNamed B.named) (atoms_spec (ws := ws) B.pre) B.notSynchronized hK hP va_S.rf hl
section MR
variable {p : Program} {l : Launch} {e : Env} {R : Room} {s : State} {m : MethodId} {args : Array Value} {below : List Frame} {meth : Method} {c : Code} {H : Heap} {locs : List Loc} {cells slots : Nat} {Q : State → Prop}
variable {cc : ByteArray} {pc : Nat} {ls : Array Slot} {rest st0 : List Value} {D : va_G} {cs : Nat → ClassId} {ad : Nat → Nat} {a : Array Value} {I J : Mm} {v : Option Value} {H0 : Heap} {A0 : Nat → Prop}
theorem q_iret {x : Int32} {f : Int32 × Mm} (hx : p.tables.exec = Jvm.exec) (hb : c.code = cc) (hr : meth.sig.returnType = some .int) (hlocks : meth.locks = false) (hdg : decode cc pc = .ok (.ireturn, 1)) (hP : va_P D vwCl (mw 97 ad (gs cs ad J)) H) (hS : va_S (mA ad) s.heap H locs) (hf : f = (x, J)) : W p l e R s m args below meth c H locs 0 0 (MQ below (mQ D cs ad (some (.int f.1)) f.2) args s 0 0 (mA ad)) (F0 m pc ls [.int x]) := by
  subst hf
  exact W.iret hx hb hr (fun t ht _ => ⟨⟨rfl, by rw [ht]; exact hP⟩, hS.F ht⟩) hS.2.2 hdg hlocks
theorem q_zret {x : Int32} {f : Int32 × Mm} (hx : p.tables.exec = Jvm.exec) (hb : c.code = cc) (hr : meth.sig.returnType = some .boolean) (hlocks : meth.locks = false) (hdg : decode cc pc = .ok (.ireturn, 1)) (hP : va_P D vwCl (mw 97 ad (gs cs ad J)) H) (hS : va_S (mA ad) s.heap H locs) (hn : narrow .boolean (.int x) = .int x) (hf : f = (x, J)) : W p l e R s m args below meth c H locs 0 0 (MQ below (mQ D cs ad (some (.int f.1)) f.2) args s 0 0 (mA ad)) (F0 m pc ls [.int x]) := by
  subst hf
  exact W.zret hx hb hr hn (fun t ht _ => ⟨⟨rfl, by rw [ht]; exact hP⟩, hS.F ht⟩) hS.2.2 hdg hlocks
theorem q_vret {f : Mm} (hx : p.tables.exec = Jvm.exec) (hb : c.code = cc) (hr : meth.sig.returnType = none) (hlocks : meth.locks = false) (hdg : decode cc pc = .ok (.return_, 1)) (hP : va_P D vwCl (mw 97 ad (gs cs ad J)) H) (hS : va_S (mA ad) s.heap H locs) (hf : f = J) : W p l e R s m args below meth c H locs 0 0 (MQ below (mQ D cs ad none f) args s 0 0 (mA ad)) (F0 m pc ls []) := by
  subst hf
  exact W.vret hx hb hr (fun t ht _ => ⟨⟨rfl, by rw [ht]; exact hP⟩, hS.F ht⟩) hS.2.2 hdg hlocks
theorem q_aret {x k : Nat} {rt : FieldType} (hx : p.tables.exec = Jvm.exec) (hb : c.code = cc) (hr : meth.sig.returnType = some rt) (hrt : (∃ n, rt = .object n) ∨ ∃ t, rt = .array t) (hlocks : meth.locks = false) (hdg : decode cc pc = .ok (.areturn, 1)) (hP : va_P D vwCl (mw 97 ad (gs cs ad J)) H) (hS : va_S (mA ad) s.heap H locs) (hf : x = ad k) : W p l e R s m args below meth c H locs 0 0 (MQ below (mQ D cs ad (some (.ref (ad k))) J) args s 0 0 (mA ad)) (F0 m pc ls [.ref x]) := by
  subst hf
  exact W.aret hx hb hr hrt (Or.inr ⟨_, rfl⟩) (fun t ht _ => ⟨⟨rfl, by rw [ht]; exact hP⟩, hS.F ht⟩) hS.2.2 hdg hlocks
theorem q_call (hr : va_Run p l e R s m args below meth c H locs cells slots 0 0 (F0 m pc ls st0) rest (mQ D cs ad v J a) (mA ad)) (hS : va_S A0 H0 H locs) (hA : ∀ q, mA ad q → A0 q)
    (kk : ∀ (H1 : Heap) (locs1 : List Loc), va_P D vwCl (mw 97 ad (gs cs ad J)) H1 → va_S A0 H0 H1 locs1 → W p l e R s m args below meth c H1 locs1 cells slots Q (F0 m (pc + 3) ls (v.toList ++ rest))) : W p l e R s m args below meth c H locs cells slots Q (F0 m pc ls st0) := by
  intro T hT X
  obtain ⟨w, st₀, t, T', L, h0, X', hL, e1, e2, ⟨⟨hv, hp⟩, hz, hk⟩, st⟩ := hr T hT X
  cases hv
  rw [h0] at hz hk
  obtain ⟨t2, a1, b1⟩ := kk T'.heap (locs ++ L) (by rw [e1]; exact hp)
    ⟨Nat.le_trans hS.1 (by rw [e1]; exact hz), fun q h1 h2 => by rw [e1, hk q (Nat.lt_of_lt_of_le h1 hS.1) (fun z => h2 (hA q z))]; exact hS.2.1 q h1 h2, fun q hq => by
      rcases List.mem_append.mp hq with h | h
      · exact hS.2.2 q h
      · exact hA _ (hL q h)⟩ T' rfl X'
  exact ⟨t2, st t2 a1, b1⟩
theorem q_calli {f : Int32 × Mm} (hr : va_Run p l e R s m args below meth c H locs cells slots 0 0 (F0 m pc ls st0) rest (mQ D cs ad (some (.int f.1)) f.2 a) (mA ad)) (hS : va_S A0 H0 H locs) (hA : ∀ q, mA ad q → A0 q)
    (kk : ∀ (H1 : Heap) (locs1 : List Loc), va_P D vwCl (mw 97 ad (gs cs ad f.2)) H1 → va_S A0 H0 H1 locs1 → W p l e R s m args below meth c H1 locs1 cells slots Q (F0 m (pc + 3) ls (.int f.1 :: rest))) : W p l e R s m args below meth c H locs cells slots Q (F0 m pc ls st0) := q_call hr hS hA kk
theorem q_iretP {x f : Int32} (hx : p.tables.exec = Jvm.exec) (hb : c.code = cc) (hr : meth.sig.returnType = some .int) (hlocks : meth.locks = false) (hdg : decode cc pc = .ok (.ireturn, 1)) (hP : va_P D vwCl (mw 97 ad (gs cs ad J)) H) (hS : va_S (mA ad) s.heap H locs) (hf : f = x) : W p l e R s m args below meth c H locs 0 0 (MQ below (mQ D cs ad (some (.int f)) J) args s 0 0 (mA ad)) (F0 m pc ls [.int x]) := by
  subst hf
  exact W.iret hx hb hr (fun t ht _ => ⟨⟨rfl, by rw [ht]; exact hP⟩, hS.F ht⟩) hS.2.2 hdg hlocks
theorem q_zretP {x f : Int32} (hx : p.tables.exec = Jvm.exec) (hb : c.code = cc) (hr : meth.sig.returnType = some .boolean) (hlocks : meth.locks = false) (hdg : decode cc pc = .ok (.ireturn, 1)) (hP : va_P D vwCl (mw 97 ad (gs cs ad J)) H) (hS : va_S (mA ad) s.heap H locs) (hn : narrow .boolean (.int x) = .int x) (hf : f = x) : W p l e R s m args below meth c H locs 0 0 (MQ below (mQ D cs ad (some (.int f)) J) args s 0 0 (mA ad)) (F0 m pc ls [.int x]) := by
  subst hf
  exact W.zret hx hb hr hn (fun t ht _ => ⟨⟨rfl, by rw [ht]; exact hP⟩, hS.F ht⟩) hS.2.2 hdg hlocks
theorem q_callp {f : Int32} (hr : va_Run p l e R s m args below meth c H locs cells slots 0 0 (F0 m pc ls st0) rest (mQ D cs ad (some (.int f)) J a) (mA ad)) (hS : va_S A0 H0 H locs) (hA : ∀ q, mA ad q → A0 q)
    (kk : ∀ (H1 : Heap) (locs1 : List Loc), va_P D vwCl (mw 97 ad (gs cs ad J)) H1 → va_S A0 H0 H1 locs1 → W p l e R s m args below meth c H1 locs1 cells slots Q (F0 m (pc + 3) ls (.int f :: rest))) : W p l e R s m args below meth c H locs cells slots Q (F0 m pc ls st0) := q_call hr hS hA kk
theorem q_callv {f : Mm} (hr : va_Run p l e R s m args below meth c H locs cells slots 0 0 (F0 m pc ls st0) rest (mQ D cs ad none f a) (mA ad)) (hS : va_S A0 H0 H locs) (hA : ∀ q, mA ad q → A0 q)
    (kk : ∀ (H1 : Heap) (locs1 : List Loc), va_P D vwCl (mw 97 ad (gs cs ad f)) H1 → va_S A0 H0 H1 locs1 → W p l e R s m args below meth c H1 locs1 cells slots Q (F0 m (pc + 3) ls rest)) : W p l e R s m args below meth c H locs cells slots Q (F0 m pc ls st0) := q_call hr hS hA kk
theorem q_callr {k : Nat} (hr : va_Run p l e R s m args below meth c H locs cells slots 0 0 (F0 m pc ls st0) rest (mQ D cs ad (some (.ref (ad k))) J a) (mA ad)) (hS : va_S A0 H0 H locs) (hA : ∀ q, mA ad q → A0 q)
    (kk : ∀ (H1 : Heap) (locs1 : List Loc), va_P D vwCl (mw 97 ad (gs cs ad J)) H1 → va_S A0 H0 H1 locs1 → W p l e R s m args below meth c H1 locs1 cells slots Q (F0 m (pc + 3) ls (.ref (ad k) :: rest))) : W p l e R s m args below meth c H locs cells slots Q (F0 m pc ls st0) := q_call hr hS hA kk
theorem q_ldM (hx : p.tables.exec = Jvm.exec) (hb : c.code = cc) (hK : va_K D vwCl (tyl cs) s) (hP : va_P D vwCl (mw 97 ad (gs cs ad I)) H) {i : Int32} (hin : vp_in i 3) (hdg : decode cc pc = .ok (.aaload, 1))
    (kk : W p l e R s m args below meth c H locs cells slots Q (F0 m (pc + 1) ls (.ref (ad (Mb i)) :: rest))) : W p l e R s m args below meth c H locs cells slots Q (F0 m pc ls (.int i :: .ref (ad 1) :: rest)) :=
  va_aldq (C := RX0) hx hb hK hP 1 2 (mq_MA ⟨by decide, rfl⟩) rfl hin hdg kk
theorem q_ldC (hx : p.tables.exec = Jvm.exec) (hb : c.code = cc) (hK : va_K D vwCl (tyl cs) s) (hP : va_P D vwCl (mw 97 ad (gs cs ad I)) H) {i : Int32} (hin : vp_in i 9) (hdg : decode cc pc = .ok (.aaload, 1))
    (kk : W p l e R s m args below meth c H locs cells slots Q (F0 m (pc + 1) ls (.ref (ad (Cb i)) :: rest))) : W p l e R s m args below meth c H locs cells slots Q (F0 m pc ls (.int i :: .ref (ad 44) :: rest)) :=
  va_aldq (C := RX1) hx hb hK hP 44 3 (mq_CA ⟨by decide, rfl⟩) rfl hin hdg kk
theorem q_preS {av : List Value} (hK : va_K D vwCl (tyl cs) s) (hP : va_P D vwCl (mw 97 ad (gs cs ad I)) H) : PreS s H (va_Pc av (mP D cs ad I)) av :=
  ⟨fun a U g mk q => by obtain ⟨q0, qP, qK⟩ := q; exact ⟨q0, qP, va_K.moved (u := U) (U := U.calling g mk a) (Vm.Alike.refl U.vm) qK⟩, fun U hU hW => ⟨rfl, by rw [hU]; exact hP, va_K.moved hW.alike hK⟩⟩
theorem q_preV {C : String} {b : Nat} {As : List Value} (hK : va_K D vwCl (tyl cs) s) (hP : va_P D vwCl (mw 97 ad (gs cs ad I)) H) (hv : ∃ cell : Cell, H[b]? = some cell ∧ cell.vm.isStatics = false ∧ s.vm.findClass C = some cell.cls) : PreV s H C b (va_Pc (.ref b :: As) (mP D cs ad I)) As :=
  ⟨(q_preS (av := .ref b :: As) hK hP).1, hv, (q_preS (av := .ref b :: As) hK hP).2⟩
end MR
-- where things lie
def isM (k : Nat) : Prop := k = 2 ∨ k = 16 ∨ k = 30
def isR (r n : Nat) : Prop := isO r 4 ∧ isA (r + 1) n ∧ isA (r + 2) n
def isS (k : Nat) : Prop := isO k 3 ∧ isA (k + 1) 4 ∧ isA (k + 2) 3
def isP (k : Nat) : Prop := isO k 2 ∧ isA (k + 1) 16 ∧ isA (k + 2) 16 ∧ isA (k + 3) 16
theorem isM_O {k : Nat} (h : isM k) : isO k 1 := by rcases h with rfl | rfl | rfl <;> exact ⟨by decide, rfl⟩
theorem isM_P {k : Nat} (h : isM k) : isP (k + 1) := by rcases h with rfl | rfl | rfl <;> exact ⟨⟨by decide, rfl⟩, ⟨by decide, rfl⟩, ⟨by decide, rfl⟩, ⟨by decide, rfl⟩⟩
theorem isM_C {k : Nat} (h : isM k) : isS (k + 5) := by rcases h with rfl | rfl | rfl <;> exact ⟨⟨by decide, rfl⟩, ⟨by decide, rfl⟩, ⟨by decide, rfl⟩⟩
theorem isM_S {k : Nat} (h : isM k) : isS (k + 8) := by rcases h with rfl | rfl | rfl <;> exact ⟨⟨by decide, rfl⟩, ⟨by decide, rfl⟩, ⟨by decide, rfl⟩⟩
theorem isM_L {k : Nat} (h : isM k) : isR (k + 11) 20 := by rcases h with rfl | rfl | rfl <;> exact ⟨⟨by decide, rfl⟩, ⟨by decide, rfl⟩, ⟨by decide, rfl⟩⟩
theorem isM_in {x : Int32} (h : vp_in x 3) : isM (Mb x) := by
  unfold Mb
  have hlt : x.toNatClampNeg < 3 := Nat.not_le.mp fun q => h (Or.inr q)
  generalize x.toNatClampNeg = n at hlt ⊢
  rcases (show n = 0 ∨ n = 1 ∨ n = 2 by omega) with rfl | rfl | rfl
  · exact Or.inl rfl
  · exact Or.inr (Or.inl rfl)
  · exact Or.inr (Or.inr rfl)
theorem isR_in {x : Int32} (h : vp_in x 9) : isR (Cb x) 8 := by
  unfold Cb
  have hlt : x.toNatClampNeg < 9 := Nat.not_le.mp fun q => h (Or.inr q)
  generalize x.toNatClampNeg = n at hlt ⊢
  rcases (show n = 0 ∨ n = 1 ∨ n = 2 ∨ n = 3 ∨ n = 4 ∨ n = 5 ∨ n = 6 ∨ n = 7 ∨ n = 8 by omega) with rfl | rfl | rfl | rfl | rfl | rfl | rfl | rfl | rfl <;> exact ⟨⟨by decide, rfl⟩, ⟨by decide, rfl⟩, ⟨by decide, rfl⟩⟩
theorem isR_72 : isR 72 60 := ⟨⟨by decide, rfl⟩, ⟨by decide, rfl⟩, ⟨by decide, rfl⟩⟩
theorem isO_0 : isO 0 0 := ⟨by decide, rfl⟩
theorem isO_1 : isO 1 6 := ⟨by decide, rfl⟩
theorem isO_44 : isO 44 7 := ⟨by decide, rfl⟩
theorem isO_75 : isO 75 5 := ⟨by decide, rfl⟩
theorem nbp0 : narrow .boolean (.int 0) = .int 0 := rfl
theorem nbp1 : narrow .boolean (.int 1) = .int 1 := rfl
theorem nb0 (m : Mm) : narrow .boolean (.int ((0 : Int32), m).1) = .int ((0 : Int32), m).1 := nbp0
theorem nb1 (m : Mm) : narrow .boolean (.int ((1 : Int32), m).1) = .int ((1 : Int32), m).1 := nbp1
theorem zz {a : Int32} {m : Mm} (h : narrow .boolean (.int a) = .int a) : narrow .boolean (.int (a, m).1) = .int (a, m).1 := h
theorem tb_ne {x : Int32} {k : Int32} {a : Int} (hk : k.toInt = a) (h : ¬ x = k) : ¬ x.toInt = a := lv_neT h hk
theorem tb_out0_2 {x : Int32} (h0 : ¬ x = 0) (h1 : ¬ x = 1) (h2 : ¬ x = 2) : x.toInt < 0 ∨ 2 < x.toInt := by
  have g0 := tb_ne (a := 0) (by decide) h0
  have g1 := tb_ne (a := 1) (by decide) h1
  have g2 := tb_ne (a := 2) (by decide) h2
  omega
theorem tb_out0_6 {x : Int32} (h0 : ¬ x = 0) (h1 : ¬ x = 1) (h2 : ¬ x = 2) (h3 : ¬ x = 3) (h4 : ¬ x = 4) (h5 : ¬ x = 5) (h6 : ¬ x = 6) : x.toInt < 0 ∨ 6 < x.toInt := by
  have g0 := tb_ne (a := 0) (by decide) h0
  have g1 := tb_ne (a := 1) (by decide) h1
  have g2 := tb_ne (a := 2) (by decide) h2
  have g3 := tb_ne (a := 3) (by decide) h3
  have g4 := tb_ne (a := 4) (by decide) h4
  have g5 := tb_ne (a := 5) (by decide) h5
  have g6 := tb_ne (a := 6) (by decide) h6
  omega
theorem tb_out0_7 {x : Int32} (h0 : ¬ x = 0) (h1 : ¬ x = 1) (h2 : ¬ x = 2) (h3 : ¬ x = 3) (h4 : ¬ x = 4) (h5 : ¬ x = 5) (h6 : ¬ x = 6) (h7 : ¬ x = 7) : x.toInt < 0 ∨ 7 < x.toInt := by
  have g := tb_out0_6 h0 h1 h2 h3 h4 h5 h6
  have g7 := tb_ne (a := 7) (by decide) h7
  omega
theorem iA_76 : isA 76 3 := ⟨by decide, rfl⟩
theorem iA_77 : isA 77 48 := ⟨by decide, rfl⟩
theorem iA_78 : isA 78 48 := ⟨by decide, rfl⟩
theorem iA_79 : isA 79 48 := ⟨by decide, rfl⟩
theorem iZ_80 : isO 80 8 := ⟨by decide, rfl⟩
theorem iA_81 : isA 81 3 := ⟨by decide, rfl⟩
theorem iA_82 : isA 82 3 := ⟨by decide, rfl⟩
theorem iA_83 : isA 83 3 := ⟨by decide, rfl⟩
theorem iZ_84 : isO 84 8 := ⟨by decide, rfl⟩
theorem iA_85 : isA 85 3 := ⟨by decide, rfl⟩
theorem iA_86 : isA 86 3 := ⟨by decide, rfl⟩
theorem iA_87 : isA 87 1536 := ⟨by decide, rfl⟩
theorem iA_88 : isA 88 1536 := ⟨by decide, rfl⟩
theorem iA_89 : isA 89 9 := ⟨by decide, rfl⟩
theorem iA_90 : isA 90 9 := ⟨by decide, rfl⟩
theorem iA_91 : isA 91 72 := ⟨by decide, rfl⟩
theorem iA_92 : isA 92 60 := ⟨by decide, rfl⟩
theorem iA_93 : isA 93 60 := ⟨by decide, rfl⟩
theorem iA_94 : isA 94 3 := ⟨by decide, rfl⟩
theorem iA_95 : isA 95 4 := ⟨by decide, rfl⟩
theorem iA_96 : isA 96 3 := ⟨by decide, rfl⟩


def I0 : Mm := fun k => if k = 2 then (fun j => if j = 0 then 1 else 0) else if k = 16 then (fun j => if j = 0 then 1 else 0) else if k = 30 then (fun j => if j = 0 then 1 else 0) else fun _ => 0
def gE : Nat → va_E := fun _ => .inr (0, [])
def gA (cs : Nat → ClassId) (B : Nat) : Nat → va_E := w_G_43 cs B (va_up gE 0 (.inr (4, [.null, .null, .null])))
def gB (cs : Nat → ClassId) (B : Nat) : Nat → va_E := w_X_42 cs B (va_up (gA cs B) 75 (.inr (5, [.null, .null, .null, .null, .null, .null, .null, .null, .null, .null, .null, .null, .null, .null, .null, .null, .int 0, .null, .null, .null, .null, .null, .int 0, .int 0, .int 0, .int 0])))
theorem at_refs {D : va_G} {a n : Nat} {c : ClassId} {f f' : Nat → Option Nat} {H : Heap} (h : va_at D vwCl (a, .inl (c, n, .inr (.inr (.inr (.inr f))))) H) (hf : ∀ j, j < n → f j = f' j) : va_at D vwCl (a, .inl (c, n, .inr (.inr (.inr (.inr f'))))) H := by
  have h : H[a]? = some (arrV c n (fun j => va_rf (f j))) := h
  show H[a]? = some (arrV c n (fun j => va_rf (f' j)))
  rw [h]
  have e : (fun j : Fin n => va_rf (f j.val)) = (fun j : Fin n => va_rf (f' j.val)) := by
    funext j
    rw [hf j.val j.isLt]
  simp only [arrV, e]
set_option maxHeartbeats 8000000 in
set_option maxRecDepth 100000 in
theorem n_final {D : va_G} {cs : Nat → ClassId} {B : Nat} {H : Heap} (hP : va_P D vwCl (mw 97 (adr B) (gB cs B)) H) : va_P D vwCl (mw 97 (adr B) (gs cs (adr B) I0)) H := by
  intro i q hq
  obtain ⟨hi, rfl⟩ := mw_of hq
  have h := hP i _ (mw_at hi)
  clear hP hq
  match i, hi, h with
  | 0, _, h => exact h
  | 1, _, h => exact at_refs h (fun j hj => by rcases (show j = 0 ∨ j = 1 ∨ j = 2 by omega) with rfl | rfl | rfl <;> rfl)
  | 2, _, h => exact h
  | 3, _, h => exact h
  | 4, _, h => exact h
  | 5, _, h => exact h
  | 6, _, h => exact h
  | 7, _, h => exact h
  | 8, _, h => exact h
  | 9, _, h => exact h
  | 10, _, h => exact h
  | 11, _, h => exact h
  | 12, _, h => exact h
  | 13, _, h => exact h
  | 14, _, h => exact h
  | 15, _, h => exact h
  | 16, _, h => exact h
  | 17, _, h => exact h
  | 18, _, h => exact h
  | 19, _, h => exact h
  | 20, _, h => exact h
  | 21, _, h => exact h
  | 22, _, h => exact h
  | 23, _, h => exact h
  | 24, _, h => exact h
  | 25, _, h => exact h
  | 26, _, h => exact h
  | 27, _, h => exact h
  | 28, _, h => exact h
  | 29, _, h => exact h
  | 30, _, h => exact h
  | 31, _, h => exact h
  | 32, _, h => exact h
  | 33, _, h => exact h
  | 34, _, h => exact h
  | 35, _, h => exact h
  | 36, _, h => exact h
  | 37, _, h => exact h
  | 38, _, h => exact h
  | 39, _, h => exact h
  | 40, _, h => exact h
  | 41, _, h => exact h
  | 42, _, h => exact h
  | 43, _, h => exact h
  | 44, _, h => exact at_refs h (fun j hj => by rcases (show j = 0 ∨ j = 1 ∨ j = 2 ∨ j = 3 ∨ j = 4 ∨ j = 5 ∨ j = 6 ∨ j = 7 ∨ j = 8 by omega) with rfl | rfl | rfl | rfl | rfl | rfl | rfl | rfl | rfl <;> rfl)
  | 45, _, h => exact h
  | 46, _, h => exact h
  | 47, _, h => exact h
  | 48, _, h => exact h
  | 49, _, h => exact h
  | 50, _, h => exact h
  | 51, _, h => exact h
  | 52, _, h => exact h
  | 53, _, h => exact h
  | 54, _, h => exact h
  | 55, _, h => exact h
  | 56, _, h => exact h
  | 57, _, h => exact h
  | 58, _, h => exact h
  | 59, _, h => exact h
  | 60, _, h => exact h
  | 61, _, h => exact h
  | 62, _, h => exact h
  | 63, _, h => exact h
  | 64, _, h => exact h
  | 65, _, h => exact h
  | 66, _, h => exact h
  | 67, _, h => exact h
  | 68, _, h => exact h
  | 69, _, h => exact h
  | 70, _, h => exact h
  | 71, _, h => exact h
  | 72, _, h => exact h
  | 73, _, h => exact h
  | 74, _, h => exact h
  | 75, _, h => exact h
  | 76, _, h => exact h
  | 77, _, h => exact h
  | 78, _, h => exact h
  | 79, _, h => exact h
  | 80, _, h => exact h
  | 81, _, h => exact h
  | 82, _, h => exact h
  | 83, _, h => exact h
  | 84, _, h => exact h
  | 85, _, h => exact h
  | 86, _, h => exact h
  | 87, _, h => exact h
  | 88, _, h => exact h
  | 89, _, h => exact h
  | 90, _, h => exact h
  | 91, _, h => exact h
  | 92, _, h => exact h
  | 93, _, h => exact h
  | 94, _, h => exact h
  | 95, _, h => exact h
  | 96, _, h => exact h
  | i + 97, hi, _ => exact absurd hi (by omega)
theorem n_known {A : Array Value} {s : State} (hts0 : ∀ w ∈ lw_tbl, w.before A s = true) : ∃ (D : va_G) (cs : Nat → ClassId), va_K D vwCl (tyl cs) s ∧ nX s := by
  have hts : ∀ w ∈ gtbl, w.before A s = true := fun w h => hts0 w (gt_in w h)
  obtain ⟨c0, i0, h0⟩ := u_known (C := RX0) (T := TX0) (N := 8) (n := 8) hts inX0 (hts _ k_18)
  obtain ⟨c1, i1, h1⟩ := u_known (C := RX1) (T := TX1) (N := 4) (n := 4) hts inX1 (hts _ k_63)
  obtain ⟨c2, i2, h2⟩ := u_known (C := RX2) (T := TX2) (N := 4) (n := 4) hts inX2 (hts _ k_23)
  obtain ⟨c3, i3, h3⟩ := u_known (C := RX3) (T := TX3) (N := 6) (n := 6) hts inX3 (hts _ k_40)
  obtain ⟨c4, i4, h4⟩ := u_known (C := RX4) (T := TX4) (N := 3) (n := 3) hts inX4 (hts _ k_10)
  obtain ⟨c5, i5, h5⟩ := u_known (C := RX5) (T := TX5) (N := 26) (n := 26) hts inX5 (hts _ k_270)
  obtain ⟨aI, kI, mI, fI, gI, eI⟩ := Cond.arrayClass_spec (hts _ k_38)
  obtain ⟨aZ, kZ, mZ, fZ, gZ, eZ⟩ := Cond.arrayClass_spec (hts _ k_327)
  have oM : (Cond.arrayOver (.object RX0)).before A s = true := hts0 _ (List.mem_of_getElem? (i := 31) (by decide +kernel))
  have oR : (Cond.arrayOver (.object RX1)).before A s = true := hts0 _ (List.mem_of_getElem? (i := 143) (by decide +kernel))
  obtain ⟨mM, aM, kM, jM, -, gM, eM, fM⟩ := Cond.arrayOver_spec oM
  obtain ⟨mR, aR, kR, jR, -, gR, eR, fR⟩ := Cond.arrayOver_spec oR
  refine ⟨(fun k => match k with | 0 => c0 | 1 => c1 | 2 => c2 | 3 => c3 | 4 => c4 | _ => c5, fun k => match k with | 0 => i0 | 1 => i1 | 2 => i2 | 3 => i3 | 4 => i4 | _ => i5), fun k => match k with | 0 => aI | 1 => aZ | 2 => aM | _ => aR, ⟨?_, ?_⟩, ?_⟩
  · intro k q hq
    match k, hq with
    | 0, hq => cases hq; exact h0
    | 1, hq => cases hq; exact h1
    | 2, hq => cases hq; exact h2
    | 3, hq => cases hq; exact h3
    | 4, hq => cases hq; exact h4
    | 5, hq => cases hq; exact h5
    | k + 6, hq => simp [vwCl] at hq
  · intro k q hq
    match k, hq with
    | 0, hq => cases hq; exact ⟨fun n z => ⟨fun k h => (by cases h), kI, gI, mI, eI⟩, fI⟩
    | 1, hq => cases hq; exact ⟨fun n z => ⟨fun k h => (by cases h), kZ, gZ, mZ, eZ⟩, fZ⟩
    | 2, hq => cases hq; exact ⟨fun n z => ⟨fun k h => (by cases h), kM, gM, mM, eM⟩, kM, mM, gM, eM, jM, fM⟩
    | 3, hq => cases hq; exact ⟨fun n z => ⟨fun k h => (by cases h), kR, gR, mR, eR⟩, kR, mR, gR, eR, jR, fR⟩
    | k + 4, hq => simp [tyl] at hq
  · exact ⟨va_Nw.of rfl (hts0 _ (List.mem_of_getElem? (i := 33) (by decide +kernel))), va_Nw.of rfl (hts0 _ (List.mem_of_getElem? (i := 39) (by decide +kernel))), va_Nw.of rfl (hts0 _ (List.mem_of_getElem? (i := 62) (by decide +kernel))), va_AO.of oM, va_AO.of oR⟩
set_option maxHeartbeats 4000000 in
set_option maxRecDepth 100000 in
theorem start_open (Inv : Nat → Mm → Prop) (hI0 : Inv 0 I0) {p : Program} {e : Env} {s : State} {m : MethodId} {below : List Frame} {meth : Method} {c : Code} (l : Launch) {b L : Nat} {xs : Nat → Int32} (hL : L ≤ 2560) (hV : ∀ (k : Nat) (J : Mm), k < 512 → Inv k J → 5 * k ≤ L → okW Inv xs L k J (nI (5 * k))) (C0 : lw_At p s m meth c b L xs) : W p l e room_1 s m #[Value.ref b] below meth c s.heap [] 0 0 (lw_Z below #[Value.ref b] s) (entryFrame m ([Value.ref b] : List Value).toArray 4) := by
  obtain ⟨hx, hb, hr, hml, hown, hts0, hX, hbl, hlocks, hgv⟩ := id C0
  have hown : s.vm.findClass RL = some m.cls := hown
  have hts : ∀ w ∈ gtbl, w.before _ s = true := fun w h => hts0 w (gt_in w h)
  obtain ⟨D, cs, hK, hNX⟩ := n_known hts0
  have hl := lv_entry ([.ref b]) (n := 4) (Nat.le_of_ble_eq_true rfl)
  rw [lg_entry_eq]
  generalize (lg_sl ([.ref b]) ++ List.replicate (4 - (lg_sl ([.ref b])).length) Slot.unset).toArray = ls at hl ⊢
  have hl : lv_has ls 4 [(0, .ref b)] := hl
  have hS : va_S (fun q : Nat => s.heap.size ≤ q) s.heap s.heap [] := va_S.rf
  have hP : va_P D vwCl (mw 0 (adr s.heap.size) gE) s.heap := fun k q h => by simp [mw] at h
  have hBs : s.heap.size ≤ s.heap.size := Nat.le_refl _
  have hB : s.heap.size + 0 = s.heap.size + 0 := rfl
  refine n_newo (N := 0) (g := gE) (ci := 4) (fs := [.null, .null, .null]) (C := RX4) (T := TX4) (F := 3) hx hb hts inX4 tyX4 tyX4_ok hown (hts _ k_9) (hts _ k_10) (hts _ k_1) hK hP hS hBs hB rfl (fun j hj => by rcases (show j = 0 ∨ j = 1 ∨ j = 2 by omega) with rfl | rfl | rfl <;> rfl) (Nat.le_of_ble_eq_true rfl) (Nat.le_of_ble_eq_true rfl) dL_law_0 (fun H hP hS => ?_)
  refine W.widen (k := 1) (n := 3) (Nat.le_of_ble_eq_true rfl) (Nat.le_of_ble_eq_true rfl) ?_
  have hB : s.heap.size + 1 = s.heap.size + 1 := rfl
  refine lv_dup hx hb dL_law_3 rfl ?_
  refine n_sized (fun hz => ?_)
  have hsz := n_size (N := 0) hP (by omega)
  refine n_call (va_runI (As := []) (rest := [.ref (adr s.heap.size 0)]) ⟨hx, hb, hml, hown, hts⟩ (n_G l D cs s.heap.size _ (va_up_self _ _ _)) (cwI 0 hts (gC k_13) rfl rfl rfl (hts _ k_1) (hts _ k_11) (hts _ k_12) rfl (by decide +kernel) ⟨Nat.le_of_ble_eq_true rfl, Nat.le_of_ble_eq_true rfl⟩) (n_pre hsz hK hNX hP) rfl rfl hl.1 rfl (lv_room (Nat.le_of_ble_eq_true rfl)) dL_law_4 ⟨Nat.le_of_ble_eq_true rfl, Nat.le_of_ble_eq_true rfl⟩) hS (fun H locs hP hS => ?_)
  have hP : va_P D vwCl (mw 75 (adr s.heap.size) (gA cs s.heap.size)) H := hP
  refine W.widen (k := 75) (n := 709) (Nat.le_of_ble_eq_true rfl) (Nat.le_of_ble_eq_true rfl) ?_
  have hB : s.heap.size + 75 = s.heap.size + 75 := rfl
  refine lv_astore_n (lv' := [(1, .ref (adr s.heap.size 0)), (0, .ref b)]) hx hb dL_law_7 rfl hl (by decide) rfl (fun ls hl => ?_)
  refine n_newo (N := 75) (g := (gA cs s.heap.size)) (ci := 5) (fs := [.null, .null, .null, .null, .null, .null, .null, .null, .null, .null, .null, .null, .null, .null, .null, .null, .int 0, .null, .null, .null, .null, .null, .int 0, .int 0, .int 0, .int 0]) (C := RX5) (T := TX5) (F := 26) hx hb hts inX5 tyX5 tyX5_ok hown (hts _ k_269) (hts _ k_270) (hts _ k_6) hK hP hS hBs hB rfl (fun j hj => by rcases (show j = 0 ∨ j = 1 ∨ j = 2 ∨ j = 3 ∨ j = 4 ∨ j = 5 ∨ j = 6 ∨ j = 7 ∨ j = 8 ∨ j = 9 ∨ j = 10 ∨ j = 11 ∨ j = 12 ∨ j = 13 ∨ j = 14 ∨ j = 15 ∨ j = 16 ∨ j = 17 ∨ j = 18 ∨ j = 19 ∨ j = 20 ∨ j = 21 ∨ j = 22 ∨ j = 23 ∨ j = 24 ∨ j = 25 by omega) with rfl | rfl | rfl | rfl | rfl | rfl | rfl | rfl | rfl | rfl | rfl | rfl | rfl | rfl | rfl | rfl | rfl | rfl | rfl | rfl | rfl | rfl | rfl | rfl | rfl | rfl <;> rfl) (Nat.le_of_ble_eq_true rfl) (Nat.le_of_ble_eq_true rfl) dL_law_8 (fun H hP hS => ?_)
  refine W.widen (k := 76) (n := 735) (Nat.le_of_ble_eq_true rfl) (Nat.le_of_ble_eq_true rfl) ?_
  have hB : s.heap.size + 76 = s.heap.size + 76 := rfl
  refine lv_dup hx hb dL_law_11 rfl ?_
  refine n_sized (fun hz => ?_)
  have hsz := n_size (N := 75) hP (by omega)
  refine n_call (va_runI (As := []) (rest := [.ref (adr s.heap.size 75)]) ⟨hx, hb, hml, hown, hts⟩ (n_X l D cs s.heap.size _ (va_up_self _ _ _)) (cwI 0 hts (gC k_273) rfl rfl rfl (hts _ k_6) (hts _ k_271) (hts _ k_272) rfl (by decide +kernel) ⟨Nat.le_of_ble_eq_true rfl, Nat.le_of_ble_eq_true rfl⟩) (n_pre hsz hK hNX hP) rfl rfl hl.1 rfl (lv_room (Nat.le_of_ble_eq_true rfl)) dL_law_12 ⟨Nat.le_of_ble_eq_true rfl, Nat.le_of_ble_eq_true rfl⟩) hS (fun H locs hP hS => ?_)
  have hP : va_P D vwCl (mw 97 (adr s.heap.size) (gB cs s.heap.size)) H := hP
  refine lv_astore_n (lv' := [(2, .ref (adr s.heap.size 75)), (1, .ref (adr s.heap.size 0)), (0, .ref b)]) hx hb dL_law_15 rfl hl (by decide) rfl (fun ls hl => ?_)
  refine lv_iconst (v := 0) hx hb dL_law_16 (by decide) ?_
  refine lv_istore_n (lv' := [(3, .int 0), (2, .ref (adr s.heap.size 75)), (1, .ref (adr s.heap.size 0)), (0, .ref b)]) hx hb dL_law_17 rfl hl (by decide) rfl (fun ls hl => ?_)
  refine W.widen (k := 97) (n := 5000) (Nat.le_of_ble_eq_true rfl) (Nat.le_of_ble_eq_true rfl) ?_
  have hi : mi (adr s.heap.size) := fun i j _ _ h => by
    have h : s.heap.size + i = s.heap.size + j := h
    omega
  have hAd : ∀ q, mA (adr s.heap.size) q → s.heap.size ≤ q := fun q h => by
    obtain ⟨k, _, rfl⟩ := h
    exact Nat.le_add_right _ _
  exact law_loop Inv hi hL C0 hK hAd hV (L + 1) 0 I0 0 _ _ ls (by omega) (by omega) nI_0.symm hI0 (n_final hP) hS (lv_sub hl [0, 3, 2, 1] rfl)

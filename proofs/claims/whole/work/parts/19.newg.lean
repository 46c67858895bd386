def w_G_1 (cs : Nat → ClassId) (B : Nat) (g : Nat → va_E) : Nat → va_E := va_up g 1 (.inl (cs 2, 3, .inr (.inr (.inr (.inr (fun _ => none))))))
def w_G_2 (cs : Nat → ClassId) (B : Nat) (g : Nat → va_E) : Nat → va_E := va_up (w_G_1 cs B g) 0 (.inr (4, [.ref (adr B 1), .null, .null]))
def w_G_3 (cs : Nat → ClassId) (B : Nat) (g : Nat → va_E) : Nat → va_E := va_up (w_G_2 cs B g) 2 (.inr (0, [.null, .null, .null, .null, .int 0, .int 0, .int 0, .int 0]))
def w_G_4 (cs : Nat → ClassId) (B : Nat) (g : Nat → va_E) : Nat → va_E := w_M_13 cs B 2 (w_G_3 cs B g)
def w_G_5 (cs : Nat → ClassId) (B : Nat) (g : Nat → va_E) : Nat → va_E := va_up (w_G_4 cs B g) 1 (.inl (cs 2, 3, .inr (.inr (.inr (.inr (va_up (fun _ => none) (0 : Int32).toNatClampNeg (some (adr B 2))))))))
def w_G_6 (cs : Nat → ClassId) (B : Nat) (g : Nat → va_E) : Nat → va_E := va_up (w_G_5 cs B g) 16 (.inr (0, [.null, .null, .null, .null, .int 0, .int 0, .int 0, .int 0]))
def w_G_7 (cs : Nat → ClassId) (B : Nat) (g : Nat → va_E) : Nat → va_E := w_M_13 cs B 16 (w_G_6 cs B g)
def w_G_8 (cs : Nat → ClassId) (B : Nat) (g : Nat → va_E) : Nat → va_E := va_up (w_G_7 cs B g) 1 (.inl (cs 2, 3, .inr (.inr (.inr (.inr (va_up (va_up (fun _ => none) (0 : Int32).toNatClampNeg (some (adr B 2))) (1 : Int32).toNatClampNeg (some (adr B 16))))))))
def w_G_9 (cs : Nat → ClassId) (B : Nat) (g : Nat → va_E) : Nat → va_E := va_up (w_G_8 cs B g) 30 (.inr (0, [.null, .null, .null, .null, .int 0, .int 0, .int 0, .int 0]))
def w_G_10 (cs : Nat → ClassId) (B : Nat) (g : Nat → va_E) : Nat → va_E := w_M_13 cs B 30 (w_G_9 cs B g)
def w_G_11 (cs : Nat → ClassId) (B : Nat) (g : Nat → va_E) : Nat → va_E := va_up (w_G_10 cs B g) 1 (.inl (cs 2, 3, .inr (.inr (.inr (.inr (va_up (va_up (va_up (fun _ => none) (0 : Int32).toNatClampNeg (some (adr B 2))) (1 : Int32).toNatClampNeg (some (adr B 16))) (2 : Int32).toNatClampNeg (some (adr B 30))))))))
def w_G_12 (cs : Nat → ClassId) (B : Nat) (g : Nat → va_E) : Nat → va_E := va_up (w_G_11 cs B g) 44 (.inl (cs 3, 9, .inr (.inr (.inr (.inr (fun _ => none))))))
def w_G_13 (cs : Nat → ClassId) (B : Nat) (g : Nat → va_E) : Nat → va_E := va_up (w_G_12 cs B g) 0 (.inr (4, [.ref (adr B 1), .ref (adr B 44), .null]))
def w_G_14 (cs : Nat → ClassId) (B : Nat) (g : Nat → va_E) : Nat → va_E := va_up (w_G_13 cs B g) 45 (.inr (1, [.null, .null, .int 0, .int 0]))
def w_G_15 (cs : Nat → ClassId) (B : Nat) (g : Nat → va_E) : Nat → va_E := w_R8_4 cs B 45 (w_G_14 cs B g)
def w_G_16 (cs : Nat → ClassId) (B : Nat) (g : Nat → va_E) : Nat → va_E := va_up (w_G_15 cs B g) 44 (.inl (cs 3, 9, .inr (.inr (.inr (.inr (va_up (fun _ => none) (0 : Int32).toNatClampNeg (some (adr B 45))))))))
def w_G_17 (cs : Nat → ClassId) (B : Nat) (g : Nat → va_E) : Nat → va_E := va_up (w_G_16 cs B g) 48 (.inr (1, [.null, .null, .int 0, .int 0]))
def w_G_18 (cs : Nat → ClassId) (B : Nat) (g : Nat → va_E) : Nat → va_E := w_R8_4 cs B 48 (w_G_17 cs B g)
def w_G_19 (cs : Nat → ClassId) (B : Nat) (g : Nat → va_E) : Nat → va_E := va_up (w_G_18 cs B g) 44 (.inl (cs 3, 9, .inr (.inr (.inr (.inr (va_up (va_up (fun _ => none) (0 : Int32).toNatClampNeg (some (adr B 45))) (1 : Int32).toNatClampNeg (some (adr B 48))))))))
def w_G_20 (cs : Nat → ClassId) (B : Nat) (g : Nat → va_E) : Nat → va_E := va_up (w_G_19 cs B g) 51 (.inr (1, [.null, .null, .int 0, .int 0]))
def w_G_21 (cs : Nat → ClassId) (B : Nat) (g : Nat → va_E) : Nat → va_E := w_R8_4 cs B 51 (w_G_20 cs B g)
def w_G_22 (cs : Nat → ClassId) (B : Nat) (g : Nat → va_E) : Nat → va_E := va_up (w_G_21 cs B g) 44 (.inl (cs 3, 9, .inr (.inr (.inr (.inr (va_up (va_up (va_up (fun _ => none) (0 : Int32).toNatClampNeg (some (adr B 45))) (1 : Int32).toNatClampNeg (some (adr B 48))) (2 : Int32).toNatClampNeg (some (adr B 51))))))))
def w_G_23 (cs : Nat → ClassId) (B : Nat) (g : Nat → va_E) : Nat → va_E := va_up (w_G_22 cs B g) 54 (.inr (1, [.null, .null, .int 0, .int 0]))
def w_G_24 (cs : Nat → ClassId) (B : Nat) (g : Nat → va_E) : Nat → va_E := w_R8_4 cs B 54 (w_G_23 cs B g)
def w_G_25 (cs : Nat → ClassId) (B : Nat) (g : Nat → va_E) : Nat → va_E := va_up (w_G_24 cs B g) 44 (.inl (cs 3, 9, .inr (.inr (.inr (.inr (va_up (va_up (va_up (va_up (fun _ => none) (0 : Int32).toNatClampNeg (some (adr B 45))) (1 : Int32).toNatClampNeg (some (adr B 48))) (2 : Int32).toNatClampNeg (some (adr B 51))) (3 : Int32).toNatClampNeg (some (adr B 54))))))))
def w_G_26 (cs : Nat → ClassId) (B : Nat) (g : Nat → va_E) : Nat → va_E := va_up (w_G_25 cs B g) 57 (.inr (1, [.null, .null, .int 0, .int 0]))
def w_G_27 (cs : Nat → ClassId) (B : Nat) (g : Nat → va_E) : Nat → va_E := w_R8_4 cs B 57 (w_G_26 cs B g)
def w_G_28 (cs : Nat → ClassId) (B : Nat) (g : Nat → va_E) : Nat → va_E := va_up (w_G_27 cs B g) 44 (.inl (cs 3, 9, .inr (.inr (.inr (.inr (va_up (va_up (va_up (va_up (va_up (fun _ => none) (0 : Int32).toNatClampNeg (some (adr B 45))) (1 : Int32).toNatClampNeg (some (adr B 48))) (2 : Int32).toNatClampNeg (some (adr B 51))) (3 : Int32).toNatClampNeg (some (adr B 54))) (4 : Int32).toNatClampNeg (some (adr B 57))))))))
def w_G_29 (cs : Nat → ClassId) (B : Nat) (g : Nat → va_E) : Nat → va_E := va_up (w_G_28 cs B g) 60 (.inr (1, [.null, .null, .int 0, .int 0]))
def w_G_30 (cs : Nat → ClassId) (B : Nat) (g : Nat → va_E) : Nat → va_E := w_R8_4 cs B 60 (w_G_29 cs B g)
def w_G_31 (cs : Nat → ClassId) (B : Nat) (g : Nat → va_E) : Nat → va_E := va_up (w_G_30 cs B g) 44 (.inl (cs 3, 9, .inr (.inr (.inr (.inr (va_up (va_up (va_up (va_up (va_up (va_up (fun _ => none) (0 : Int32).toNatClampNeg (some (adr B 45))) (1 : Int32).toNatClampNeg (some (adr B 48))) (2 : Int32).toNatClampNeg (some (adr B 51))) (3 : Int32).toNatClampNeg (some (adr B 54))) (4 : Int32).toNatClampNeg (some (adr B 57))) (5 : Int32).toNatClampNeg (some (adr B 60))))))))
def w_G_32 (cs : Nat → ClassId) (B : Nat) (g : Nat → va_E) : Nat → va_E := va_up (w_G_31 cs B g) 63 (.inr (1, [.null, .null, .int 0, .int 0]))
def w_G_33 (cs : Nat → ClassId) (B : Nat) (g : Nat → va_E) : Nat → va_E := w_R8_4 cs B 63 (w_G_32 cs B g)
def w_G_34 (cs : Nat → ClassId) (B : Nat) (g : Nat → va_E) : Nat → va_E := va_up (w_G_33 cs B g) 44 (.inl (cs 3, 9, .inr (.inr (.inr (.inr (va_up (va_up (va_up (va_up (va_up (va_up (va_up (fun _ => none) (0 : Int32).toNatClampNeg (some (adr B 45))) (1 : Int32).toNatClampNeg (some (adr B 48))) (2 : Int32).toNatClampNeg (some (adr B 51))) (3 : Int32).toNatClampNeg (some (adr B 54))) (4 : Int32).toNatClampNeg (some (adr B 57))) (5 : Int32).toNatClampNeg (some (adr B 60))) (6 : Int32).toNatClampNeg (some (adr B 63))))))))
def w_G_35 (cs : Nat → ClassId) (B : Nat) (g : Nat → va_E) : Nat → va_E := va_up (w_G_34 cs B g) 66 (.inr (1, [.null, .null, .int 0, .int 0]))
def w_G_36 (cs : Nat → ClassId) (B : Nat) (g : Nat → va_E) : Nat → va_E := w_R8_4 cs B 66 (w_G_35 cs B g)
def w_G_37 (cs : Nat → ClassId) (B : Nat) (g : Nat → va_E) : Nat → va_E := va_up (w_G_36 cs B g) 44 (.inl (cs 3, 9, .inr (.inr (.inr (.inr (va_up (va_up (va_up (va_up (va_up (va_up (va_up (va_up (fun _ => none) (0 : Int32).toNatClampNeg (some (adr B 45))) (1 : Int32).toNatClampNeg (some (adr B 48))) (2 : Int32).toNatClampNeg (some (adr B 51))) (3 : Int32).toNatClampNeg (some (adr B 54))) (4 : Int32).toNatClampNeg (some (adr B 57))) (5 : Int32).toNatClampNeg (some (adr B 60))) (6 : Int32).toNatClampNeg (some (adr B 63))) (7 : Int32).toNatClampNeg (some (adr B 66))))))))
def w_G_38 (cs : Nat → ClassId) (B : Nat) (g : Nat → va_E) : Nat → va_E := va_up (w_G_37 cs B g) 69 (.inr (1, [.null, .null, .int 0, .int 0]))
def w_G_39 (cs : Nat → ClassId) (B : Nat) (g : Nat → va_E) : Nat → va_E := w_R8_4 cs B 69 (w_G_38 cs B g)
def w_G_40 (cs : Nat → ClassId) (B : Nat) (g : Nat → va_E) : Nat → va_E := va_up (w_G_39 cs B g) 44 (.inl (cs 3, 9, .inr (.inr (.inr (.inr (va_up (va_up (va_up (va_up (va_up (va_up (va_up (va_up (va_up (fun _ => none) (0 : Int32).toNatClampNeg (some (adr B 45))) (1 : Int32).toNatClampNeg (some (adr B 48))) (2 : Int32).toNatClampNeg (some (adr B 51))) (3 : Int32).toNatClampNeg (some (adr B 54))) (4 : Int32).toNatClampNeg (some (adr B 57))) (5 : Int32).toNatClampNeg (some (adr B 60))) (6 : Int32).toNatClampNeg (some (adr B 63))) (7 : Int32).toNatClampNeg (some (adr B 66))) (8 : Int32).toNatClampNeg (some (adr B 69))))))))
def w_G_41 (cs : Nat → ClassId) (B : Nat) (g : Nat → va_E) : Nat → va_E := va_up (w_G_40 cs B g) 72 (.inr (1, [.null, .null, .int 0, .int 0]))
def w_G_42 (cs : Nat → ClassId) (B : Nat) (g : Nat → va_E) : Nat → va_E := w_R60_4 cs B 72 (w_G_41 cs B g)
def w_G_43 (cs : Nat → ClassId) (B : Nat) (g : Nat → va_E) : Nat → va_E := va_up (w_G_42 cs B g) 0 (.inr (4, [.ref (adr B 1), .ref (adr B 44), .ref (adr B 72)]))
set_option maxHeartbeats 4000000 in
set_option maxRecDepth 100000 in
theorem n_G (l : Launch) (D : va_G) (cs : Nat → ClassId) (B : Nat) (g : Nat → va_E) (f_own : g 0 = .inr (4, [.null, .null, .null])) : NC l yX4_init wX4_init { frames := 3, cells := 74, slots := 706, locals := 65 } D cs B [.ref (adr B 0)] (1) g (75) (w_G_43 cs B g) 74 706 := by
  refine n_enter (cc := cX4_init) (maxL := 2) (by decide +kernel) rfl (Nat.le_of_ble_eq_true rfl) ?_
  intro p e s m below meth c ls hx hb hr hml hown hts hlocks hin hz0 hK hX hP hS hl
  have hown : s.vm.findClass RX4 = some m.cls := hown
  have hin : meth.name = "<init>" := hin
  have hts : ∀ w ∈ gtbl, w.before _ s = true := fun w h => hts w (List.mem_cons_of_mem _ h)
  have hl : lv_has ls 2 [(0, .ref (adr B 0))] := hl
  have hBs : B ≤ s.heap.size := by omega
  have hB : s.heap.size + 0 = B + 1 := hz0
  refine lv_aload_n hx hb dX4_init_0 rfl (lv_at hl 0 rfl) ?_
  refine W.objInit hx hb hown (hts _ k_14) (hts _ k_15) (hts _ k_16) rfl (by rw [hml]; exact hl.1) rfl dX4_init_1 (Nat.le_of_ble_eq_true rfl) (Nat.le_of_ble_eq_true rfl) ?_
  refine W.eq (g2 := F0 m 4 ls []) rfl ?_
  refine lv_aload_n hx hb dX4_init_4 rfl (lv_at hl 0 rfl) ?_
  refine lv_iconst (v := 3) hx hb dX4_init_5 (by decide) ?_
  refine n_newr (C := RX0) (t0 := 2) (n' := 3) rfl hx hb hown (hts _ k_17) hX.2.2.2.1 hK hP hS hBs hB (by decide) (by decide) (by decide) (Nat.le_of_ble_eq_true rfl) (Nat.le_of_ble_eq_true rfl) dX4_init_6 (fun H hP hS => ?_)
  have hP : va_P D vwCl (mw 2 (adr B) (w_G_1 cs B g)) H := hP
  have f_own : (w_G_1 cs B g) 0 = .inr (4, [.null, .null, .null]) := (va_up_ne _ _ (by omega)).trans f_own
  have f_1 : (w_G_1 cs B g) 1 = .inl (cs 2, 3, .inr (.inr (.inr (.inr (fun _ => none))))) := va_up_self _ _ _
  refine W.widen (k := 1) (n := 3) (Nat.le_of_ble_eq_true rfl) (Nat.le_of_ble_eq_true rfl) ?_
  have hB : s.heap.size + 1 = B + 2 := by omega
  refine va_putF (D := D) (ci := 4) (v := .ref (adr B 1)) (ty := .array (.object "ReplayGroup$Member")) (C := RX4) (T := TX4) (N := 3) hx hb hts inX4 tyX4 tyX4_ok nmX4 hown hK hP nD hS 0 (n_at (by omega) f_own) rfl 0 (by decide) (hts _ k_101) (fun _ h9 => h9) rfl hin rfl (by decide +kernel) rfl rfl (Nat.le_of_ble_eq_true rfl) dX4_init_9 (fun H locs hP _ hS => ?_)
  have hP := n_put (by omega) hP
  have hP : va_P D vwCl (mw 2 (adr B) (w_G_2 cs B g)) H := hP
  have f_1 : (w_G_2 cs B g) 1 = .inl (cs 2, 3, .inr (.inr (.inr (.inr (fun _ => none))))) := (va_up_ne _ _ (by omega)).trans f_1
  have f_0 : (w_G_2 cs B g) 0 = .inr (4, [.ref (adr B 1), .null, .null]) := va_up_self _ _ _
  refine lv_iconst (v := 0) hx hb dX4_init_12 (by decide) ?_
  refine lv_istore_n (lv' := [(1, .int 0), (0, .ref (adr B 0))]) hx hb dX4_init_13 rfl hl (by decide) rfl (fun ls hl => ?_)
  refine lv_iload_n hx hb dX4_init_14 rfl (lv_at hl 0 rfl) ?_
  refine lv_iconst (v := 3) hx hb dX4_init_15 (by decide) ?_
  refine lv_icmp_ge (tgt := 38) hx hb dX4_init_16 (by decide) (fun h1 => absurd h1 (by decide)) (fun h1 => ?_)
  refine lv_aload_n hx hb dX4_init_19 rfl (lv_at hl 1 rfl) ?_
  refine va_get (D := D) (ci := 4) (v := .ref (adr B 1)) (C := RX4) (T := TX4) (N := 3) hx hb hts inX4 hown hK hP 0 (n_at (by omega) f_0) rfl 0 (by decide) (hts _ k_101) (fun _ h9 => h9) rfl dX4_init_20 ?_
  refine lv_iload_n hx hb dX4_init_23 rfl (lv_at hl 0 rfl) ?_
  refine n_newo (ci := 0) (fs := [.null, .null, .null, .null, .int 0, .int 0, .int 0, .int 0]) (C := RX0) (T := TX0) (F := 8) hx hb hts inX0 tyX0 tyX0_ok hown (hts _ k_17) (hts _ k_18) (hts _ k_2) hK hP hS hBs hB rfl (fun j hj => by rcases (show j = 0 ∨ j = 1 ∨ j = 2 ∨ j = 3 ∨ j = 4 ∨ j = 5 ∨ j = 6 ∨ j = 7 by omega) with rfl | rfl | rfl | rfl | rfl | rfl | rfl | rfl <;> rfl) (Nat.le_of_ble_eq_true rfl) (Nat.le_of_ble_eq_true rfl) dX4_init_24 (fun H hP hS => ?_)
  have hP : va_P D vwCl (mw 3 (adr B) (w_G_3 cs B g)) H := hP
  have f_0 : (w_G_3 cs B g) 0 = .inr (4, [.ref (adr B 1), .null, .null]) := (va_up_ne _ _ (by omega)).trans f_0
  have f_1 : (w_G_3 cs B g) 1 = .inl (cs 2, 3, .inr (.inr (.inr (.inr (fun _ => none))))) := (va_up_ne _ _ (by omega)).trans f_1
  have f_2 : (w_G_3 cs B g) 2 = .inr (0, [.null, .null, .null, .null, .int 0, .int 0, .int 0, .int 0]) := va_up_self _ _ _
  refine W.widen (k := 2) (n := 11) (Nat.le_of_ble_eq_true rfl) (Nat.le_of_ble_eq_true rfl) ?_
  have hB : s.heap.size + 2 = B + 3 := by omega
  refine lv_dup hx hb dX4_init_27 rfl ?_
  refine n_sized (fun hz => ?_)
  have hsz := n_size (N := 2) hP (by omega)
  refine n_call (va_runIN (As := []) (rest := [.ref (adr B 2), .int 0, .ref (adr B 1)]) ⟨hx, hb, hml, hown, hts⟩ (n_M l D cs B 2 (w_G_3 cs B g) f_2) ⟨va_cnB 0 hts (gC k_20) rfl rfl rfl hX.1 (hts _ k_2) (by decide +kernel) ⟨Nat.le_of_ble_eq_true rfl, Nat.le_of_ble_eq_true rfl⟩, rfl, hts _ k_19⟩ (n_pre hsz hK hX hP) rfl rfl hl.1 rfl (lv_room (Nat.le_of_ble_eq_true rfl)) dX4_init_28 ⟨Nat.le_of_ble_eq_true rfl, Nat.le_of_ble_eq_true rfl⟩) hS (fun H locs hP hS => ?_)
  have hP : va_P D vwCl (mw 16 (adr B) (w_G_4 cs B g)) H := hP
  have f_0 : (w_G_4 cs B g) 0 = .inr (4, [.ref (adr B 1), .null, .null]) := (w_M_13_keep (by omega)).trans f_0
  have f_1 : (w_G_4 cs B g) 1 = .inl (cs 2, 3, .inr (.inr (.inr (.inr (fun _ => none))))) := (w_M_13_keep (by omega)).trans f_1
  have f_2 : (w_G_4 cs B g) 2 = .inr (0, [.ref (adr B 3), .ref (adr B 7), .ref (adr B 10), .ref (adr B 13), .int 1, .int 0, .int 0, .int 0]) := n_M_own _ _ _ _
  refine W.widen (k := 15) (n := 133) (Nat.le_of_ble_eq_true rfl) (Nat.le_of_ble_eq_true rfl) ?_
  have hB : s.heap.size + 15 = B + 16 := by omega
  refine va_astq (v := adr B 2) hx hb hK hP nD hS 1 2 2 0 (n_at (by omega) f_1) rfl (n_at (by omega) f_2) rfl (i := 0) (by unfold vp_in; decide) dX4_init_31 (fun H locs hP _ hS => ?_)
  have hP := n_put (by omega) hP
  have hP : va_P D vwCl (mw 16 (adr B) (w_G_5 cs B g)) H := hP
  have f_0 : (w_G_5 cs B g) 0 = .inr (4, [.ref (adr B 1), .null, .null]) := (va_up_ne _ _ (by omega)).trans f_0
  have f_1 : (w_G_5 cs B g) 1 = .inl (cs 2, 3, .inr (.inr (.inr (.inr (va_up (fun _ => none) (0 : Int32).toNatClampNeg (some (adr B 2))))))) := va_up_self _ _ _
  refine lv_iinc (v := 1) (lv' := [(1, .int 1), (0, .ref (adr B 0))]) hx hb dX4_init_32 hl (k := 0) rfl (by decide) (by decide) rfl (fun ls hl => ?_)
  refine lv_goto (tgt := 14) hx hb dX4_init_35 (by decide) ?_
  refine lv_iload_n hx hb dX4_init_14 rfl (lv_at hl 0 rfl) ?_
  refine lv_iconst (v := 3) hx hb dX4_init_15 (by decide) ?_
  refine lv_icmp_ge (tgt := 38) hx hb dX4_init_16 (by decide) (fun h1 => absurd h1 (by decide)) (fun h1 => ?_)
  refine lv_aload_n hx hb dX4_init_19 rfl (lv_at hl 1 rfl) ?_
  refine va_get (D := D) (ci := 4) (v := .ref (adr B 1)) (C := RX4) (T := TX4) (N := 3) hx hb hts inX4 hown hK hP 0 (n_at (by omega) f_0) rfl 0 (by decide) (hts _ k_101) (fun _ h9 => h9) rfl dX4_init_20 ?_
  refine lv_iload_n hx hb dX4_init_23 rfl (lv_at hl 0 rfl) ?_
  refine n_newo (ci := 0) (fs := [.null, .null, .null, .null, .int 0, .int 0, .int 0, .int 0]) (C := RX0) (T := TX0) (F := 8) hx hb hts inX0 tyX0 tyX0_ok hown (hts _ k_17) (hts _ k_18) (hts _ k_2) hK hP hS hBs hB rfl (fun j hj => by rcases (show j = 0 ∨ j = 1 ∨ j = 2 ∨ j = 3 ∨ j = 4 ∨ j = 5 ∨ j = 6 ∨ j = 7 by omega) with rfl | rfl | rfl | rfl | rfl | rfl | rfl | rfl <;> rfl) (Nat.le_of_ble_eq_true rfl) (Nat.le_of_ble_eq_true rfl) dX4_init_24 (fun H hP hS => ?_)
  have hP : va_P D vwCl (mw 17 (adr B) (w_G_6 cs B g)) H := hP
  have f_0 : (w_G_6 cs B g) 0 = .inr (4, [.ref (adr B 1), .null, .null]) := (va_up_ne _ _ (by omega)).trans f_0
  have f_1 : (w_G_6 cs B g) 1 = .inl (cs 2, 3, .inr (.inr (.inr (.inr (va_up (fun _ => none) (0 : Int32).toNatClampNeg (some (adr B 2))))))) := (va_up_ne _ _ (by omega)).trans f_1
  have f_16 : (w_G_6 cs B g) 16 = .inr (0, [.null, .null, .null, .null, .int 0, .int 0, .int 0, .int 0]) := va_up_self _ _ _
  refine W.widen (k := 16) (n := 141) (Nat.le_of_ble_eq_true rfl) (Nat.le_of_ble_eq_true rfl) ?_
  have hB : s.heap.size + 16 = B + 17 := by omega
  refine lv_dup hx hb dX4_init_27 rfl ?_
  refine n_sized (fun hz => ?_)
  have hsz := n_size (N := 16) hP (by omega)
  refine n_call (va_runIN (As := []) (rest := [.ref (adr B 16), .int 1, .ref (adr B 1)]) ⟨hx, hb, hml, hown, hts⟩ (n_M l D cs B 16 (w_G_6 cs B g) f_16) ⟨va_cnB 0 hts (gC k_20) rfl rfl rfl hX.1 (hts _ k_2) (by decide +kernel) ⟨Nat.le_of_ble_eq_true rfl, Nat.le_of_ble_eq_true rfl⟩, rfl, hts _ k_19⟩ (n_pre hsz hK hX hP) rfl rfl hl.1 rfl (lv_room (Nat.le_of_ble_eq_true rfl)) dX4_init_28 ⟨Nat.le_of_ble_eq_true rfl, Nat.le_of_ble_eq_true rfl⟩) hS (fun H locs hP hS => ?_)
  have hP : va_P D vwCl (mw 30 (adr B) (w_G_7 cs B g)) H := hP
  have f_0 : (w_G_7 cs B g) 0 = .inr (4, [.ref (adr B 1), .null, .null]) := (w_M_13_keep (by omega)).trans f_0
  have f_1 : (w_G_7 cs B g) 1 = .inl (cs 2, 3, .inr (.inr (.inr (.inr (va_up (fun _ => none) (0 : Int32).toNatClampNeg (some (adr B 2))))))) := (w_M_13_keep (by omega)).trans f_1
  have f_16 : (w_G_7 cs B g) 16 = .inr (0, [.ref (adr B 17), .ref (adr B 21), .ref (adr B 24), .ref (adr B 27), .int 1, .int 0, .int 0, .int 0]) := n_M_own _ _ _ _
  refine W.widen (k := 29) (n := 263) (Nat.le_of_ble_eq_true rfl) (Nat.le_of_ble_eq_true rfl) ?_
  have hB : s.heap.size + 29 = B + 30 := by omega
  refine va_astq (v := adr B 16) hx hb hK hP nD hS 1 2 16 0 (n_at (by omega) f_1) rfl (n_at (by omega) f_16) rfl (i := 1) (by unfold vp_in; decide) dX4_init_31 (fun H locs hP _ hS => ?_)
  have hP := n_put (by omega) hP
  have hP : va_P D vwCl (mw 30 (adr B) (w_G_8 cs B g)) H := hP
  have f_0 : (w_G_8 cs B g) 0 = .inr (4, [.ref (adr B 1), .null, .null]) := (va_up_ne _ _ (by omega)).trans f_0
  have f_1 : (w_G_8 cs B g) 1 = .inl (cs 2, 3, .inr (.inr (.inr (.inr (va_up (va_up (fun _ => none) (0 : Int32).toNatClampNeg (some (adr B 2))) (1 : Int32).toNatClampNeg (some (adr B 16))))))) := va_up_self _ _ _
  refine lv_iinc (v := 2) (lv' := [(1, .int 2), (0, .ref (adr B 0))]) hx hb dX4_init_32 hl (k := 0) rfl (by decide) (by decide) rfl (fun ls hl => ?_)
  refine lv_goto (tgt := 14) hx hb dX4_init_35 (by decide) ?_
  refine lv_iload_n hx hb dX4_init_14 rfl (lv_at hl 0 rfl) ?_
  refine lv_iconst (v := 3) hx hb dX4_init_15 (by decide) ?_
  refine lv_icmp_ge (tgt := 38) hx hb dX4_init_16 (by decide) (fun h1 => absurd h1 (by decide)) (fun h1 => ?_)
  refine lv_aload_n hx hb dX4_init_19 rfl (lv_at hl 1 rfl) ?_
  refine va_get (D := D) (ci := 4) (v := .ref (adr B 1)) (C := RX4) (T := TX4) (N := 3) hx hb hts inX4 hown hK hP 0 (n_at (by omega) f_0) rfl 0 (by decide) (hts _ k_101) (fun _ h9 => h9) rfl dX4_init_20 ?_
  refine lv_iload_n hx hb dX4_init_23 rfl (lv_at hl 0 rfl) ?_
  refine n_newo (ci := 0) (fs := [.null, .null, .null, .null, .int 0, .int 0, .int 0, .int 0]) (C := RX0) (T := TX0) (F := 8) hx hb hts inX0 tyX0 tyX0_ok hown (hts _ k_17) (hts _ k_18) (hts _ k_2) hK hP hS hBs hB rfl (fun j hj => by rcases (show j = 0 ∨ j = 1 ∨ j = 2 ∨ j = 3 ∨ j = 4 ∨ j = 5 ∨ j = 6 ∨ j = 7 by omega) with rfl | rfl | rfl | rfl | rfl | rfl | rfl | rfl <;> rfl) (Nat.le_of_ble_eq_true rfl) (Nat.le_of_ble_eq_true rfl) dX4_init_24 (fun H hP hS => ?_)
  have hP : va_P D vwCl (mw 31 (adr B) (w_G_9 cs B g)) H := hP
  have f_0 : (w_G_9 cs B g) 0 = .inr (4, [.ref (adr B 1), .null, .null]) := (va_up_ne _ _ (by omega)).trans f_0
  have f_1 : (w_G_9 cs B g) 1 = .inl (cs 2, 3, .inr (.inr (.inr (.inr (va_up (va_up (fun _ => none) (0 : Int32).toNatClampNeg (some (adr B 2))) (1 : Int32).toNatClampNeg (some (adr B 16))))))) := (va_up_ne _ _ (by omega)).trans f_1
  have f_30 : (w_G_9 cs B g) 30 = .inr (0, [.null, .null, .null, .null, .int 0, .int 0, .int 0, .int 0]) := va_up_self _ _ _
  refine W.widen (k := 30) (n := 271) (Nat.le_of_ble_eq_true rfl) (Nat.le_of_ble_eq_true rfl) ?_
  have hB : s.heap.size + 30 = B + 31 := by omega
  refine lv_dup hx hb dX4_init_27 rfl ?_
  refine n_sized (fun hz => ?_)
  have hsz := n_size (N := 30) hP (by omega)
  refine n_call (va_runIN (As := []) (rest := [.ref (adr B 30), .int 2, .ref (adr B 1)]) ⟨hx, hb, hml, hown, hts⟩ (n_M l D cs B 30 (w_G_9 cs B g) f_30) ⟨va_cnB 0 hts (gC k_20) rfl rfl rfl hX.1 (hts _ k_2) (by decide +kernel) ⟨Nat.le_of_ble_eq_true rfl, Nat.le_of_ble_eq_true rfl⟩, rfl, hts _ k_19⟩ (n_pre hsz hK hX hP) rfl rfl hl.1 rfl (lv_room (Nat.le_of_ble_eq_true rfl)) dX4_init_28 ⟨Nat.le_of_ble_eq_true rfl, Nat.le_of_ble_eq_true rfl⟩) hS (fun H locs hP hS => ?_)
  have hP : va_P D vwCl (mw 44 (adr B) (w_G_10 cs B g)) H := hP
  have f_0 : (w_G_10 cs B g) 0 = .inr (4, [.ref (adr B 1), .null, .null]) := (w_M_13_keep (by omega)).trans f_0
  have f_1 : (w_G_10 cs B g) 1 = .inl (cs 2, 3, .inr (.inr (.inr (.inr (va_up (va_up (fun _ => none) (0 : Int32).toNatClampNeg (some (adr B 2))) (1 : Int32).toNatClampNeg (some (adr B 16))))))) := (w_M_13_keep (by omega)).trans f_1
  have f_30 : (w_G_10 cs B g) 30 = .inr (0, [.ref (adr B 31), .ref (adr B 35), .ref (adr B 38), .ref (adr B 41), .int 1, .int 0, .int 0, .int 0]) := n_M_own _ _ _ _
  refine W.widen (k := 43) (n := 393) (Nat.le_of_ble_eq_true rfl) (Nat.le_of_ble_eq_true rfl) ?_
  have hB : s.heap.size + 43 = B + 44 := by omega
  refine va_astq (v := adr B 30) hx hb hK hP nD hS 1 2 30 0 (n_at (by omega) f_1) rfl (n_at (by omega) f_30) rfl (i := 2) (by unfold vp_in; decide) dX4_init_31 (fun H locs hP _ hS => ?_)
  have hP := n_put (by omega) hP
  have hP : va_P D vwCl (mw 44 (adr B) (w_G_11 cs B g)) H := hP
  have f_0 : (w_G_11 cs B g) 0 = .inr (4, [.ref (adr B 1), .null, .null]) := (va_up_ne _ _ (by omega)).trans f_0
  have f_1 : (w_G_11 cs B g) 1 = .inl (cs 2, 3, .inr (.inr (.inr (.inr (va_up (va_up (va_up (fun _ => none) (0 : Int32).toNatClampNeg (some (adr B 2))) (1 : Int32).toNatClampNeg (some (adr B 16))) (2 : Int32).toNatClampNeg (some (adr B 30))))))) := va_up_self _ _ _
  refine lv_iinc (v := 3) (lv' := [(1, .int 3), (0, .ref (adr B 0))]) hx hb dX4_init_32 hl (k := 0) rfl (by decide) (by decide) rfl (fun ls hl => ?_)
  refine lv_goto (tgt := 14) hx hb dX4_init_35 (by decide) ?_
  refine lv_iload_n hx hb dX4_init_14 rfl (lv_at hl 0 rfl) ?_
  refine lv_iconst (v := 3) hx hb dX4_init_15 (by decide) ?_
  refine lv_icmp_ge (tgt := 38) hx hb dX4_init_16 (by decide) (fun h1 => ?_) (fun h1 => absurd h1 (by decide))
  refine lv_aload_n hx hb dX4_init_38 rfl (lv_at hl 1 rfl) ?_
  refine lv_bipush (v := 9) hx hb dX4_init_39 (by decide) ?_
  refine n_newr (C := RX1) (t0 := 3) (n' := 9) rfl hx hb hown (hts _ k_99) hX.2.2.2.2 hK hP hS hBs hB (by decide) (by decide) (by decide) (Nat.le_of_ble_eq_true rfl) (Nat.le_of_ble_eq_true rfl) dX4_init_41 (fun H hP hS => ?_)
  have hP : va_P D vwCl (mw 45 (adr B) (w_G_12 cs B g)) H := hP
  have f_0 : (w_G_12 cs B g) 0 = .inr (4, [.ref (adr B 1), .null, .null]) := (va_up_ne _ _ (by omega)).trans f_0
  have f_1 : (w_G_12 cs B g) 1 = .inl (cs 2, 3, .inr (.inr (.inr (.inr (va_up (va_up (va_up (fun _ => none) (0 : Int32).toNatClampNeg (some (adr B 2))) (1 : Int32).toNatClampNeg (some (adr B 16))) (2 : Int32).toNatClampNeg (some (adr B 30))))))) := (va_up_ne _ _ (by omega)).trans f_1
  have f_44 : (w_G_12 cs B g) 44 = .inl (cs 3, 9, .inr (.inr (.inr (.inr (fun _ => none))))) := va_up_self _ _ _
  refine W.widen (k := 44) (n := 402) (Nat.le_of_ble_eq_true rfl) (Nat.le_of_ble_eq_true rfl) ?_
  have hB : s.heap.size + 44 = B + 45 := by omega
  refine va_putF (D := D) (ci := 4) (v := .ref (adr B 44)) (ty := .array (.object "ReplayGroup$NumberedRow")) (C := RX4) (T := TX4) (N := 3) hx hb hts inX4 tyX4 tyX4_ok nmX4 hown hK hP nD hS 0 (n_at (by omega) f_0) rfl 1 (by decide) (hts _ k_102) (fun _ h9 => h9) rfl hin rfl (by decide +kernel) rfl rfl (Nat.le_of_ble_eq_true rfl) dX4_init_44 (fun H locs hP _ hS => ?_)
  have hP := n_put (by omega) hP
  have hP : va_P D vwCl (mw 45 (adr B) (w_G_13 cs B g)) H := hP
  have f_1 : (w_G_13 cs B g) 1 = .inl (cs 2, 3, .inr (.inr (.inr (.inr (va_up (va_up (va_up (fun _ => none) (0 : Int32).toNatClampNeg (some (adr B 2))) (1 : Int32).toNatClampNeg (some (adr B 16))) (2 : Int32).toNatClampNeg (some (adr B 30))))))) := (va_up_ne _ _ (by omega)).trans f_1
  have f_44 : (w_G_13 cs B g) 44 = .inl (cs 3, 9, .inr (.inr (.inr (.inr (fun _ => none))))) := (va_up_ne _ _ (by omega)).trans f_44
  have f_0 : (w_G_13 cs B g) 0 = .inr (4, [.ref (adr B 1), .ref (adr B 44), .null]) := va_up_self _ _ _
  refine lv_iconst (v := 0) hx hb dX4_init_47 (by decide) ?_
  refine lv_istore_n (lv' := [(1, .int 0), (0, .ref (adr B 0))]) hx hb dX4_init_48 rfl hl (by decide) rfl (fun ls hl => ?_)
  refine lv_iload_n hx hb dX4_init_49 rfl (lv_at hl 0 rfl) ?_
  refine lv_aload_n hx hb dX4_init_50 rfl (lv_at hl 1 rfl) ?_
  refine va_get (D := D) (ci := 4) (v := .ref (adr B 44)) (C := RX4) (T := TX4) (N := 3) hx hb hts inX4 hown hK hP 0 (n_at (by omega) f_0) rfl 1 (by decide) (hts _ k_102) (fun _ h9 => h9) rfl dX4_init_51 ?_
  refine va_alen (v := 9) hx hb hK hP 44 3 (n_at (by omega) f_44) rfl rfl dX4_init_54 ?_
  refine lv_icmp_ge (tgt := 79) hx hb dX4_init_55 (by decide) (fun h1 => absurd h1 (by decide)) (fun h1 => ?_)
  refine lv_aload_n hx hb dX4_init_58 rfl (lv_at hl 1 rfl) ?_
  refine va_get (D := D) (ci := 4) (v := .ref (adr B 44)) (C := RX4) (T := TX4) (N := 3) hx hb hts inX4 hown hK hP 0 (n_at (by omega) f_0) rfl 1 (by decide) (hts _ k_102) (fun _ h9 => h9) rfl dX4_init_59 ?_
  refine lv_iload_n hx hb dX4_init_62 rfl (lv_at hl 0 rfl) ?_
  refine n_newo (ci := 1) (fs := [.null, .null, .int 0, .int 0]) (C := RX1) (T := TX1) (F := 4) hx hb hts inX1 tyX1 tyX1_ok hown (hts _ k_99) (hts _ k_63) (hts _ k_5) hK hP hS hBs hB rfl (fun j hj => by rcases (show j = 0 ∨ j = 1 ∨ j = 2 ∨ j = 3 by omega) with rfl | rfl | rfl | rfl <;> rfl) (Nat.le_of_ble_eq_true rfl) (Nat.le_of_ble_eq_true rfl) dX4_init_63 (fun H hP hS => ?_)
  have hP : va_P D vwCl (mw 46 (adr B) (w_G_14 cs B g)) H := hP
  have f_0 : (w_G_14 cs B g) 0 = .inr (4, [.ref (adr B 1), .ref (adr B 44), .null]) := (va_up_ne _ _ (by omega)).trans f_0
  have f_1 : (w_G_14 cs B g) 1 = .inl (cs 2, 3, .inr (.inr (.inr (.inr (va_up (va_up (va_up (fun _ => none) (0 : Int32).toNatClampNeg (some (adr B 2))) (1 : Int32).toNatClampNeg (some (adr B 16))) (2 : Int32).toNatClampNeg (some (adr B 30))))))) := (va_up_ne _ _ (by omega)).trans f_1
  have f_44 : (w_G_14 cs B g) 44 = .inl (cs 3, 9, .inr (.inr (.inr (.inr (fun _ => none))))) := (va_up_ne _ _ (by omega)).trans f_44
  have f_45 : (w_G_14 cs B g) 45 = .inr (1, [.null, .null, .int 0, .int 0]) := va_up_self _ _ _
  refine W.widen (k := 45) (n := 406) (Nat.le_of_ble_eq_true rfl) (Nat.le_of_ble_eq_true rfl) ?_
  have hB : s.heap.size + 45 = B + 46 := by omega
  refine lv_dup hx hb dX4_init_66 rfl ?_
  refine lv_bipush (v := 8) hx hb dX4_init_67 (by decide) ?_
  refine n_sized (fun hz => ?_)
  have hsz := n_size (N := 45) hP (by omega)
  refine n_call (va_runI (As := [.int 8]) (rest := [.ref (adr B 45), .int 0, .ref (adr B 44)]) ⟨hx, hb, hml, hown, hts⟩ (n_R8 l D cs B 45 (w_G_14 cs B g) f_45) (cwI 1 hts (gC k_66) rfl rfl rfl (hts _ k_5) (hts _ k_100) (hts _ k_65) rfl (by decide +kernel) ⟨Nat.le_of_ble_eq_true rfl, Nat.le_of_ble_eq_true rfl⟩) (n_pre hsz hK hX hP) rfl rfl hl.1 rfl (lv_room (Nat.le_of_ble_eq_true rfl)) dX4_init_69 ⟨Nat.le_of_ble_eq_true rfl, Nat.le_of_ble_eq_true rfl⟩) hS (fun H locs hP hS => ?_)
  have hP : va_P D vwCl (mw 48 (adr B) (w_G_15 cs B g)) H := hP
  have f_0 : (w_G_15 cs B g) 0 = .inr (4, [.ref (adr B 1), .ref (adr B 44), .null]) := (w_R8_4_keep (by omega)).trans f_0
  have f_1 : (w_G_15 cs B g) 1 = .inl (cs 2, 3, .inr (.inr (.inr (.inr (va_up (va_up (va_up (fun _ => none) (0 : Int32).toNatClampNeg (some (adr B 2))) (1 : Int32).toNatClampNeg (some (adr B 16))) (2 : Int32).toNatClampNeg (some (adr B 30))))))) := (w_R8_4_keep (by omega)).trans f_1
  have f_44 : (w_G_15 cs B g) 44 = .inl (cs 3, 9, .inr (.inr (.inr (.inr (fun _ => none))))) := (w_R8_4_keep (by omega)).trans f_44
  have f_45 : (w_G_15 cs B g) 45 = .inr (1, [.ref (adr B 46), .ref (adr B 47), .int 0, .int 0]) := n_R8_own _ _ _ _
  refine W.widen (k := 47) (n := 422) (Nat.le_of_ble_eq_true rfl) (Nat.le_of_ble_eq_true rfl) ?_
  have hB : s.heap.size + 47 = B + 48 := by omega
  refine va_astq (v := adr B 45) hx hb hK hP nD hS 44 3 45 1 (n_at (by omega) f_44) rfl (n_at (by omega) f_45) rfl (i := 0) (by unfold vp_in; decide) dX4_init_72 (fun H locs hP _ hS => ?_)
  have hP := n_put (by omega) hP
  have hP : va_P D vwCl (mw 48 (adr B) (w_G_16 cs B g)) H := hP
  have f_0 : (w_G_16 cs B g) 0 = .inr (4, [.ref (adr B 1), .ref (adr B 44), .null]) := (va_up_ne _ _ (by omega)).trans f_0
  have f_1 : (w_G_16 cs B g) 1 = .inl (cs 2, 3, .inr (.inr (.inr (.inr (va_up (va_up (va_up (fun _ => none) (0 : Int32).toNatClampNeg (some (adr B 2))) (1 : Int32).toNatClampNeg (some (adr B 16))) (2 : Int32).toNatClampNeg (some (adr B 30))))))) := (va_up_ne _ _ (by omega)).trans f_1
  have f_44 : (w_G_16 cs B g) 44 = .inl (cs 3, 9, .inr (.inr (.inr (.inr (va_up (fun _ => none) (0 : Int32).toNatClampNeg (some (adr B 45))))))) := va_up_self _ _ _
  refine lv_iinc (v := 1) (lv' := [(1, .int 1), (0, .ref (adr B 0))]) hx hb dX4_init_73 hl (k := 0) rfl (by decide) (by decide) rfl (fun ls hl => ?_)
  refine lv_goto (tgt := 49) hx hb dX4_init_76 (by decide) ?_
  refine lv_iload_n hx hb dX4_init_49 rfl (lv_at hl 0 rfl) ?_
  refine lv_aload_n hx hb dX4_init_50 rfl (lv_at hl 1 rfl) ?_
  refine va_get (D := D) (ci := 4) (v := .ref (adr B 44)) (C := RX4) (T := TX4) (N := 3) hx hb hts inX4 hown hK hP 0 (n_at (by omega) f_0) rfl 1 (by decide) (hts _ k_102) (fun _ h9 => h9) rfl dX4_init_51 ?_
  refine va_alen (v := 9) hx hb hK hP 44 3 (n_at (by omega) f_44) rfl rfl dX4_init_54 ?_
  refine lv_icmp_ge (tgt := 79) hx hb dX4_init_55 (by decide) (fun h1 => absurd h1 (by decide)) (fun h1 => ?_)
  refine lv_aload_n hx hb dX4_init_58 rfl (lv_at hl 1 rfl) ?_
  refine va_get (D := D) (ci := 4) (v := .ref (adr B 44)) (C := RX4) (T := TX4) (N := 3) hx hb hts inX4 hown hK hP 0 (n_at (by omega) f_0) rfl 1 (by decide) (hts _ k_102) (fun _ h9 => h9) rfl dX4_init_59 ?_
  refine lv_iload_n hx hb dX4_init_62 rfl (lv_at hl 0 rfl) ?_
  refine n_newo (ci := 1) (fs := [.null, .null, .int 0, .int 0]) (C := RX1) (T := TX1) (F := 4) hx hb hts inX1 tyX1 tyX1_ok hown (hts _ k_99) (hts _ k_63) (hts _ k_5) hK hP hS hBs hB rfl (fun j hj => by rcases (show j = 0 ∨ j = 1 ∨ j = 2 ∨ j = 3 by omega) with rfl | rfl | rfl | rfl <;> rfl) (Nat.le_of_ble_eq_true rfl) (Nat.le_of_ble_eq_true rfl) dX4_init_63 (fun H hP hS => ?_)
  have hP : va_P D vwCl (mw 49 (adr B) (w_G_17 cs B g)) H := hP
  have f_0 : (w_G_17 cs B g) 0 = .inr (4, [.ref (adr B 1), .ref (adr B 44), .null]) := (va_up_ne _ _ (by omega)).trans f_0
  have f_1 : (w_G_17 cs B g) 1 = .inl (cs 2, 3, .inr (.inr (.inr (.inr (va_up (va_up (va_up (fun _ => none) (0 : Int32).toNatClampNeg (some (adr B 2))) (1 : Int32).toNatClampNeg (some (adr B 16))) (2 : Int32).toNatClampNeg (some (adr B 30))))))) := (va_up_ne _ _ (by omega)).trans f_1
  have f_44 : (w_G_17 cs B g) 44 = .inl (cs 3, 9, .inr (.inr (.inr (.inr (va_up (fun _ => none) (0 : Int32).toNatClampNeg (some (adr B 45))))))) := (va_up_ne _ _ (by omega)).trans f_44
  have f_48 : (w_G_17 cs B g) 48 = .inr (1, [.null, .null, .int 0, .int 0]) := va_up_self _ _ _
  refine W.widen (k := 48) (n := 426) (Nat.le_of_ble_eq_true rfl) (Nat.le_of_ble_eq_true rfl) ?_
  have hB : s.heap.size + 48 = B + 49 := by omega
  refine lv_dup hx hb dX4_init_66 rfl ?_
  refine lv_bipush (v := 8) hx hb dX4_init_67 (by decide) ?_
  refine n_sized (fun hz => ?_)
  have hsz := n_size (N := 48) hP (by omega)
  refine n_call (va_runI (As := [.int 8]) (rest := [.ref (adr B 48), .int 1, .ref (adr B 44)]) ⟨hx, hb, hml, hown, hts⟩ (n_R8 l D cs B 48 (w_G_17 cs B g) f_48) (cwI 1 hts (gC k_66) rfl rfl rfl (hts _ k_5) (hts _ k_100) (hts _ k_65) rfl (by decide +kernel) ⟨Nat.le_of_ble_eq_true rfl, Nat.le_of_ble_eq_true rfl⟩) (n_pre hsz hK hX hP) rfl rfl hl.1 rfl (lv_room (Nat.le_of_ble_eq_true rfl)) dX4_init_69 ⟨Nat.le_of_ble_eq_true rfl, Nat.le_of_ble_eq_true rfl⟩) hS (fun H locs hP hS => ?_)
  have hP : va_P D vwCl (mw 51 (adr B) (w_G_18 cs B g)) H := hP
  have f_0 : (w_G_18 cs B g) 0 = .inr (4, [.ref (adr B 1), .ref (adr B 44), .null]) := (w_R8_4_keep (by omega)).trans f_0
  have f_1 : (w_G_18 cs B g) 1 = .inl (cs 2, 3, .inr (.inr (.inr (.inr (va_up (va_up (va_up (fun _ => none) (0 : Int32).toNatClampNeg (some (adr B 2))) (1 : Int32).toNatClampNeg (some (adr B 16))) (2 : Int32).toNatClampNeg (some (adr B 30))))))) := (w_R8_4_keep (by omega)).trans f_1
  have f_44 : (w_G_18 cs B g) 44 = .inl (cs 3, 9, .inr (.inr (.inr (.inr (va_up (fun _ => none) (0 : Int32).toNatClampNeg (some (adr B 45))))))) := (w_R8_4_keep (by omega)).trans f_44
  have f_48 : (w_G_18 cs B g) 48 = .inr (1, [.ref (adr B 49), .ref (adr B 50), .int 0, .int 0]) := n_R8_own _ _ _ _
  refine W.widen (k := 50) (n := 442) (Nat.le_of_ble_eq_true rfl) (Nat.le_of_ble_eq_true rfl) ?_
  have hB : s.heap.size + 50 = B + 51 := by omega
  refine va_astq (v := adr B 48) hx hb hK hP nD hS 44 3 48 1 (n_at (by omega) f_44) rfl (n_at (by omega) f_48) rfl (i := 1) (by unfold vp_in; decide) dX4_init_72 (fun H locs hP _ hS => ?_)
  have hP := n_put (by omega) hP
  have hP : va_P D vwCl (mw 51 (adr B) (w_G_19 cs B g)) H := hP
  have f_0 : (w_G_19 cs B g) 0 = .inr (4, [.ref (adr B 1), .ref (adr B 44), .null]) := (va_up_ne _ _ (by omega)).trans f_0
  have f_1 : (w_G_19 cs B g) 1 = .inl (cs 2, 3, .inr (.inr (.inr (.inr (va_up (va_up (va_up (fun _ => none) (0 : Int32).toNatClampNeg (some (adr B 2))) (1 : Int32).toNatClampNeg (some (adr B 16))) (2 : Int32).toNatClampNeg (some (adr B 30))))))) := (va_up_ne _ _ (by omega)).trans f_1
  have f_44 : (w_G_19 cs B g) 44 = .inl (cs 3, 9, .inr (.inr (.inr (.inr (va_up (va_up (fun _ => none) (0 : Int32).toNatClampNeg (some (adr B 45))) (1 : Int32).toNatClampNeg (some (adr B 48))))))) := va_up_self _ _ _
  refine lv_iinc (v := 2) (lv' := [(1, .int 2), (0, .ref (adr B 0))]) hx hb dX4_init_73 hl (k := 0) rfl (by decide) (by decide) rfl (fun ls hl => ?_)
  refine lv_goto (tgt := 49) hx hb dX4_init_76 (by decide) ?_
  refine lv_iload_n hx hb dX4_init_49 rfl (lv_at hl 0 rfl) ?_
  refine lv_aload_n hx hb dX4_init_50 rfl (lv_at hl 1 rfl) ?_
  refine va_get (D := D) (ci := 4) (v := .ref (adr B 44)) (C := RX4) (T := TX4) (N := 3) hx hb hts inX4 hown hK hP 0 (n_at (by omega) f_0) rfl 1 (by decide) (hts _ k_102) (fun _ h9 => h9) rfl dX4_init_51 ?_
  refine va_alen (v := 9) hx hb hK hP 44 3 (n_at (by omega) f_44) rfl rfl dX4_init_54 ?_
  refine lv_icmp_ge (tgt := 79) hx hb dX4_init_55 (by decide) (fun h1 => absurd h1 (by decide)) (fun h1 => ?_)
  refine lv_aload_n hx hb dX4_init_58 rfl (lv_at hl 1 rfl) ?_
  refine va_get (D := D) (ci := 4) (v := .ref (adr B 44)) (C := RX4) (T := TX4) (N := 3) hx hb hts inX4 hown hK hP 0 (n_at (by omega) f_0) rfl 1 (by decide) (hts _ k_102) (fun _ h9 => h9) rfl dX4_init_59 ?_
  refine lv_iload_n hx hb dX4_init_62 rfl (lv_at hl 0 rfl) ?_
  refine n_newo (ci := 1) (fs := [.null, .null, .int 0, .int 0]) (C := RX1) (T := TX1) (F := 4) hx hb hts inX1 tyX1 tyX1_ok hown (hts _ k_99) (hts _ k_63) (hts _ k_5) hK hP hS hBs hB rfl (fun j hj => by rcases (show j = 0 ∨ j = 1 ∨ j = 2 ∨ j = 3 by omega) with rfl | rfl | rfl | rfl <;> rfl) (Nat.le_of_ble_eq_true rfl) (Nat.le_of_ble_eq_true rfl) dX4_init_63 (fun H hP hS => ?_)
  have hP : va_P D vwCl (mw 52 (adr B) (w_G_20 cs B g)) H := hP
  have f_0 : (w_G_20 cs B g) 0 = .inr (4, [.ref (adr B 1), .ref (adr B 44), .null]) := (va_up_ne _ _ (by omega)).trans f_0
  have f_1 : (w_G_20 cs B g) 1 = .inl (cs 2, 3, .inr (.inr (.inr (.inr (va_up (va_up (va_up (fun _ => none) (0 : Int32).toNatClampNeg (some (adr B 2))) (1 : Int32).toNatClampNeg (some (adr B 16))) (2 : Int32).toNatClampNeg (some (adr B 30))))))) := (va_up_ne _ _ (by omega)).trans f_1
  have f_44 : (w_G_20 cs B g) 44 = .inl (cs 3, 9, .inr (.inr (.inr (.inr (va_up (va_up (fun _ => none) (0 : Int32).toNatClampNeg (some (adr B 45))) (1 : Int32).toNatClampNeg (some (adr B 48))))))) := (va_up_ne _ _ (by omega)).trans f_44
  have f_51 : (w_G_20 cs B g) 51 = .inr (1, [.null, .null, .int 0, .int 0]) := va_up_self _ _ _
  refine W.widen (k := 51) (n := 446) (Nat.le_of_ble_eq_true rfl) (Nat.le_of_ble_eq_true rfl) ?_
  have hB : s.heap.size + 51 = B + 52 := by omega
  refine lv_dup hx hb dX4_init_66 rfl ?_
  refine lv_bipush (v := 8) hx hb dX4_init_67 (by decide) ?_
  refine n_sized (fun hz => ?_)
  have hsz := n_size (N := 51) hP (by omega)
  refine n_call (va_runI (As := [.int 8]) (rest := [.ref (adr B 51), .int 2, .ref (adr B 44)]) ⟨hx, hb, hml, hown, hts⟩ (n_R8 l D cs B 51 (w_G_20 cs B g) f_51) (cwI 1 hts (gC k_66) rfl rfl rfl (hts _ k_5) (hts _ k_100) (hts _ k_65) rfl (by decide +kernel) ⟨Nat.le_of_ble_eq_true rfl, Nat.le_of_ble_eq_true rfl⟩) (n_pre hsz hK hX hP) rfl rfl hl.1 rfl (lv_room (Nat.le_of_ble_eq_true rfl)) dX4_init_69 ⟨Nat.le_of_ble_eq_true rfl, Nat.le_of_ble_eq_true rfl⟩) hS (fun H locs hP hS => ?_)
  have hP : va_P D vwCl (mw 54 (adr B) (w_G_21 cs B g)) H := hP
  have f_0 : (w_G_21 cs B g) 0 = .inr (4, [.ref (adr B 1), .ref (adr B 44), .null]) := (w_R8_4_keep (by omega)).trans f_0
  have f_1 : (w_G_21 cs B g) 1 = .inl (cs 2, 3, .inr (.inr (.inr (.inr (va_up (va_up (va_up (fun _ => none) (0 : Int32).toNatClampNeg (some (adr B 2))) (1 : Int32).toNatClampNeg (some (adr B 16))) (2 : Int32).toNatClampNeg (some (adr B 30))))))) := (w_R8_4_keep (by omega)).trans f_1
  have f_44 : (w_G_21 cs B g) 44 = .inl (cs 3, 9, .inr (.inr (.inr (.inr (va_up (va_up (fun _ => none) (0 : Int32).toNatClampNeg (some (adr B 45))) (1 : Int32).toNatClampNeg (some (adr B 48))))))) := (w_R8_4_keep (by omega)).trans f_44
  have f_51 : (w_G_21 cs B g) 51 = .inr (1, [.ref (adr B 52), .ref (adr B 53), .int 0, .int 0]) := n_R8_own _ _ _ _
  refine W.widen (k := 53) (n := 462) (Nat.le_of_ble_eq_true rfl) (Nat.le_of_ble_eq_true rfl) ?_
  have hB : s.heap.size + 53 = B + 54 := by omega
  refine va_astq (v := adr B 51) hx hb hK hP nD hS 44 3 51 1 (n_at (by omega) f_44) rfl (n_at (by omega) f_51) rfl (i := 2) (by unfold vp_in; decide) dX4_init_72 (fun H locs hP _ hS => ?_)
  have hP := n_put (by omega) hP
  have hP : va_P D vwCl (mw 54 (adr B) (w_G_22 cs B g)) H := hP
  have f_0 : (w_G_22 cs B g) 0 = .inr (4, [.ref (adr B 1), .ref (adr B 44), .null]) := (va_up_ne _ _ (by omega)).trans f_0
  have f_1 : (w_G_22 cs B g) 1 = .inl (cs 2, 3, .inr (.inr (.inr (.inr (va_up (va_up (va_up (fun _ => none) (0 : Int32).toNatClampNeg (some (adr B 2))) (1 : Int32).toNatClampNeg (some (adr B 16))) (2 : Int32).toNatClampNeg (some (adr B 30))))))) := (va_up_ne _ _ (by omega)).trans f_1
  have f_44 : (w_G_22 cs B g) 44 = .inl (cs 3, 9, .inr (.inr (.inr (.inr (va_up (va_up (va_up (fun _ => none) (0 : Int32).toNatClampNeg (some (adr B 45))) (1 : Int32).toNatClampNeg (some (adr B 48))) (2 : Int32).toNatClampNeg (some (adr B 51))))))) := va_up_self _ _ _
  refine lv_iinc (v := 3) (lv' := [(1, .int 3), (0, .ref (adr B 0))]) hx hb dX4_init_73 hl (k := 0) rfl (by decide) (by decide) rfl (fun ls hl => ?_)
  refine lv_goto (tgt := 49) hx hb dX4_init_76 (by decide) ?_
  refine lv_iload_n hx hb dX4_init_49 rfl (lv_at hl 0 rfl) ?_
  refine lv_aload_n hx hb dX4_init_50 rfl (lv_at hl 1 rfl) ?_
  refine va_get (D := D) (ci := 4) (v := .ref (adr B 44)) (C := RX4) (T := TX4) (N := 3) hx hb hts inX4 hown hK hP 0 (n_at (by omega) f_0) rfl 1 (by decide) (hts _ k_102) (fun _ h9 => h9) rfl dX4_init_51 ?_
  refine va_alen (v := 9) hx hb hK hP 44 3 (n_at (by omega) f_44) rfl rfl dX4_init_54 ?_
  refine lv_icmp_ge (tgt := 79) hx hb dX4_init_55 (by decide) (fun h1 => absurd h1 (by decide)) (fun h1 => ?_)
  refine lv_aload_n hx hb dX4_init_58 rfl (lv_at hl 1 rfl) ?_
  refine va_get (D := D) (ci := 4) (v := .ref (adr B 44)) (C := RX4) (T := TX4) (N := 3) hx hb hts inX4 hown hK hP 0 (n_at (by omega) f_0) rfl 1 (by decide) (hts _ k_102) (fun _ h9 => h9) rfl dX4_init_59 ?_
  refine lv_iload_n hx hb dX4_init_62 rfl (lv_at hl 0 rfl) ?_
  refine n_newo (ci := 1) (fs := [.null, .null, .int 0, .int 0]) (C := RX1) (T := TX1) (F := 4) hx hb hts inX1 tyX1 tyX1_ok hown (hts _ k_99) (hts _ k_63) (hts _ k_5) hK hP hS hBs hB rfl (fun j hj => by rcases (show j = 0 ∨ j = 1 ∨ j = 2 ∨ j = 3 by omega) with rfl | rfl | rfl | rfl <;> rfl) (Nat.le_of_ble_eq_true rfl) (Nat.le_of_ble_eq_true rfl) dX4_init_63 (fun H hP hS => ?_)
  have hP : va_P D vwCl (mw 55 (adr B) (w_G_23 cs B g)) H := hP
  have f_0 : (w_G_23 cs B g) 0 = .inr (4, [.ref (adr B 1), .ref (adr B 44), .null]) := (va_up_ne _ _ (by omega)).trans f_0
  have f_1 : (w_G_23 cs B g) 1 = .inl (cs 2, 3, .inr (.inr (.inr (.inr (va_up (va_up (va_up (fun _ => none) (0 : Int32).toNatClampNeg (some (adr B 2))) (1 : Int32).toNatClampNeg (some (adr B 16))) (2 : Int32).toNatClampNeg (some (adr B 30))))))) := (va_up_ne _ _ (by omega)).trans f_1
  have f_44 : (w_G_23 cs B g) 44 = .inl (cs 3, 9, .inr (.inr (.inr (.inr (va_up (va_up (va_up (fun _ => none) (0 : Int32).toNatClampNeg (some (adr B 45))) (1 : Int32).toNatClampNeg (some (adr B 48))) (2 : Int32).toNatClampNeg (some (adr B 51))))))) := (va_up_ne _ _ (by omega)).trans f_44
  have f_54 : (w_G_23 cs B g) 54 = .inr (1, [.null, .null, .int 0, .int 0]) := va_up_self _ _ _
  refine W.widen (k := 54) (n := 466) (Nat.le_of_ble_eq_true rfl) (Nat.le_of_ble_eq_true rfl) ?_
  have hB : s.heap.size + 54 = B + 55 := by omega
  refine lv_dup hx hb dX4_init_66 rfl ?_
  refine lv_bipush (v := 8) hx hb dX4_init_67 (by decide) ?_
  refine n_sized (fun hz => ?_)
  have hsz := n_size (N := 54) hP (by omega)
  refine n_call (va_runI (As := [.int 8]) (rest := [.ref (adr B 54), .int 3, .ref (adr B 44)]) ⟨hx, hb, hml, hown, hts⟩ (n_R8 l D cs B 54 (w_G_23 cs B g) f_54) (cwI 1 hts (gC k_66) rfl rfl rfl (hts _ k_5) (hts _ k_100) (hts _ k_65) rfl (by decide +kernel) ⟨Nat.le_of_ble_eq_true rfl, Nat.le_of_ble_eq_true rfl⟩) (n_pre hsz hK hX hP) rfl rfl hl.1 rfl (lv_room (Nat.le_of_ble_eq_true rfl)) dX4_init_69 ⟨Nat.le_of_ble_eq_true rfl, Nat.le_of_ble_eq_true rfl⟩) hS (fun H locs hP hS => ?_)
  have hP : va_P D vwCl (mw 57 (adr B) (w_G_24 cs B g)) H := hP
  have f_0 : (w_G_24 cs B g) 0 = .inr (4, [.ref (adr B 1), .ref (adr B 44), .null]) := (w_R8_4_keep (by omega)).trans f_0
  have f_1 : (w_G_24 cs B g) 1 = .inl (cs 2, 3, .inr (.inr (.inr (.inr (va_up (va_up (va_up (fun _ => none) (0 : Int32).toNatClampNeg (some (adr B 2))) (1 : Int32).toNatClampNeg (some (adr B 16))) (2 : Int32).toNatClampNeg (some (adr B 30))))))) := (w_R8_4_keep (by omega)).trans f_1
  have f_44 : (w_G_24 cs B g) 44 = .inl (cs 3, 9, .inr (.inr (.inr (.inr (va_up (va_up (va_up (fun _ => none) (0 : Int32).toNatClampNeg (some (adr B 45))) (1 : Int32).toNatClampNeg (some (adr B 48))) (2 : Int32).toNatClampNeg (some (adr B 51))))))) := (w_R8_4_keep (by omega)).trans f_44
  have f_54 : (w_G_24 cs B g) 54 = .inr (1, [.ref (adr B 55), .ref (adr B 56), .int 0, .int 0]) := n_R8_own _ _ _ _
  refine W.widen (k := 56) (n := 482) (Nat.le_of_ble_eq_true rfl) (Nat.le_of_ble_eq_true rfl) ?_
  have hB : s.heap.size + 56 = B + 57 := by omega
  refine va_astq (v := adr B 54) hx hb hK hP nD hS 44 3 54 1 (n_at (by omega) f_44) rfl (n_at (by omega) f_54) rfl (i := 3) (by unfold vp_in; decide) dX4_init_72 (fun H locs hP _ hS => ?_)
  have hP := n_put (by omega) hP
  have hP : va_P D vwCl (mw 57 (adr B) (w_G_25 cs B g)) H := hP
  have f_0 : (w_G_25 cs B g) 0 = .inr (4, [.ref (adr B 1), .ref (adr B 44), .null]) := (va_up_ne _ _ (by omega)).trans f_0
  have f_1 : (w_G_25 cs B g) 1 = .inl (cs 2, 3, .inr (.inr (.inr (.inr (va_up (va_up (va_up (fun _ => none) (0 : Int32).toNatClampNeg (some (adr B 2))) (1 : Int32).toNatClampNeg (some (adr B 16))) (2 : Int32).toNatClampNeg (some (adr B 30))))))) := (va_up_ne _ _ (by omega)).trans f_1
  have f_44 : (w_G_25 cs B g) 44 = .inl (cs 3, 9, .inr (.inr (.inr (.inr (va_up (va_up (va_up (va_up (fun _ => none) (0 : Int32).toNatClampNeg (some (adr B 45))) (1 : Int32).toNatClampNeg (some (adr B 48))) (2 : Int32).toNatClampNeg (some (adr B 51))) (3 : Int32).toNatClampNeg (some (adr B 54))))))) := va_up_self _ _ _
  refine lv_iinc (v := 4) (lv' := [(1, .int 4), (0, .ref (adr B 0))]) hx hb dX4_init_73 hl (k := 0) rfl (by decide) (by decide) rfl (fun ls hl => ?_)
  refine lv_goto (tgt := 49) hx hb dX4_init_76 (by decide) ?_
  refine lv_iload_n hx hb dX4_init_49 rfl (lv_at hl 0 rfl) ?_
  refine lv_aload_n hx hb dX4_init_50 rfl (lv_at hl 1 rfl) ?_
  refine va_get (D := D) (ci := 4) (v := .ref (adr B 44)) (C := RX4) (T := TX4) (N := 3) hx hb hts inX4 hown hK hP 0 (n_at (by omega) f_0) rfl 1 (by decide) (hts _ k_102) (fun _ h9 => h9) rfl dX4_init_51 ?_
  refine va_alen (v := 9) hx hb hK hP 44 3 (n_at (by omega) f_44) rfl rfl dX4_init_54 ?_
  refine lv_icmp_ge (tgt := 79) hx hb dX4_init_55 (by decide) (fun h1 => absurd h1 (by decide)) (fun h1 => ?_)
  refine lv_aload_n hx hb dX4_init_58 rfl (lv_at hl 1 rfl) ?_
  refine va_get (D := D) (ci := 4) (v := .ref (adr B 44)) (C := RX4) (T := TX4) (N := 3) hx hb hts inX4 hown hK hP 0 (n_at (by omega) f_0) rfl 1 (by decide) (hts _ k_102) (fun _ h9 => h9) rfl dX4_init_59 ?_
  refine lv_iload_n hx hb dX4_init_62 rfl (lv_at hl 0 rfl) ?_
  refine n_newo (ci := 1) (fs := [.null, .null, .int 0, .int 0]) (C := RX1) (T := TX1) (F := 4) hx hb hts inX1 tyX1 tyX1_ok hown (hts _ k_99) (hts _ k_63) (hts _ k_5) hK hP hS hBs hB rfl (fun j hj => by rcases (show j = 0 ∨ j = 1 ∨ j = 2 ∨ j = 3 by omega) with rfl | rfl | rfl | rfl <;> rfl) (Nat.le_of_ble_eq_true rfl) (Nat.le_of_ble_eq_true rfl) dX4_init_63 (fun H hP hS => ?_)
  have hP : va_P D vwCl (mw 58 (adr B) (w_G_26 cs B g)) H := hP
  have f_0 : (w_G_26 cs B g) 0 = .inr (4, [.ref (adr B 1), .ref (adr B 44), .null]) := (va_up_ne _ _ (by omega)).trans f_0
  have f_1 : (w_G_26 cs B g) 1 = .inl (cs 2, 3, .inr (.inr (.inr (.inr (va_up (va_up (va_up (fun _ => none) (0 : Int32).toNatClampNeg (some (adr B 2))) (1 : Int32).toNatClampNeg (some (adr B 16))) (2 : Int32).toNatClampNeg (some (adr B 30))))))) := (va_up_ne _ _ (by omega)).trans f_1
  have f_44 : (w_G_26 cs B g) 44 = .inl (cs 3, 9, .inr (.inr (.inr (.inr (va_up (va_up (va_up (va_up (fun _ => none) (0 : Int32).toNatClampNeg (some (adr B 45))) (1 : Int32).toNatClampNeg (some (adr B 48))) (2 : Int32).toNatClampNeg (some (adr B 51))) (3 : Int32).toNatClampNeg (some (adr B 54))))))) := (va_up_ne _ _ (by omega)).trans f_44
  have f_57 : (w_G_26 cs B g) 57 = .inr (1, [.null, .null, .int 0, .int 0]) := va_up_self _ _ _
  refine W.widen (k := 57) (n := 486) (Nat.le_of_ble_eq_true rfl) (Nat.le_of_ble_eq_true rfl) ?_
  have hB : s.heap.size + 57 = B + 58 := by omega
  refine lv_dup hx hb dX4_init_66 rfl ?_
  refine lv_bipush (v := 8) hx hb dX4_init_67 (by decide) ?_
  refine n_sized (fun hz => ?_)
  have hsz := n_size (N := 57) hP (by omega)
  refine n_call (va_runI (As := [.int 8]) (rest := [.ref (adr B 57), .int 4, .ref (adr B 44)]) ⟨hx, hb, hml, hown, hts⟩ (n_R8 l D cs B 57 (w_G_26 cs B g) f_57) (cwI 1 hts (gC k_66) rfl rfl rfl (hts _ k_5) (hts _ k_100) (hts _ k_65) rfl (by decide +kernel) ⟨Nat.le_of_ble_eq_true rfl, Nat.le_of_ble_eq_true rfl⟩) (n_pre hsz hK hX hP) rfl rfl hl.1 rfl (lv_room (Nat.le_of_ble_eq_true rfl)) dX4_init_69 ⟨Nat.le_of_ble_eq_true rfl, Nat.le_of_ble_eq_true rfl⟩) hS (fun H locs hP hS => ?_)
  have hP : va_P D vwCl (mw 60 (adr B) (w_G_27 cs B g)) H := hP
  have f_0 : (w_G_27 cs B g) 0 = .inr (4, [.ref (adr B 1), .ref (adr B 44), .null]) := (w_R8_4_keep (by omega)).trans f_0
  have f_1 : (w_G_27 cs B g) 1 = .inl (cs 2, 3, .inr (.inr (.inr (.inr (va_up (va_up (va_up (fun _ => none) (0 : Int32).toNatClampNeg (some (adr B 2))) (1 : Int32).toNatClampNeg (some (adr B 16))) (2 : Int32).toNatClampNeg (some (adr B 30))))))) := (w_R8_4_keep (by omega)).trans f_1
  have f_44 : (w_G_27 cs B g) 44 = .inl (cs 3, 9, .inr (.inr (.inr (.inr (va_up (va_up (va_up (va_up (fun _ => none) (0 : Int32).toNatClampNeg (some (adr B 45))) (1 : Int32).toNatClampNeg (some (adr B 48))) (2 : Int32).toNatClampNeg (some (adr B 51))) (3 : Int32).toNatClampNeg (some (adr B 54))))))) := (w_R8_4_keep (by omega)).trans f_44
  have f_57 : (w_G_27 cs B g) 57 = .inr (1, [.ref (adr B 58), .ref (adr B 59), .int 0, .int 0]) := n_R8_own _ _ _ _
  refine W.widen (k := 59) (n := 502) (Nat.le_of_ble_eq_true rfl) (Nat.le_of_ble_eq_true rfl) ?_
  have hB : s.heap.size + 59 = B + 60 := by omega
  refine va_astq (v := adr B 57) hx hb hK hP nD hS 44 3 57 1 (n_at (by omega) f_44) rfl (n_at (by omega) f_57) rfl (i := 4) (by unfold vp_in; decide) dX4_init_72 (fun H locs hP _ hS => ?_)
  have hP := n_put (by omega) hP
  have hP : va_P D vwCl (mw 60 (adr B) (w_G_28 cs B g)) H := hP
  have f_0 : (w_G_28 cs B g) 0 = .inr (4, [.ref (adr B 1), .ref (adr B 44), .null]) := (va_up_ne _ _ (by omega)).trans f_0
  have f_1 : (w_G_28 cs B g) 1 = .inl (cs 2, 3, .inr (.inr (.inr (.inr (va_up (va_up (va_up (fun _ => none) (0 : Int32).toNatClampNeg (some (adr B 2))) (1 : Int32).toNatClampNeg (some (adr B 16))) (2 : Int32).toNatClampNeg (some (adr B 30))))))) := (va_up_ne _ _ (by omega)).trans f_1
  have f_44 : (w_G_28 cs B g) 44 = .inl (cs 3, 9, .inr (.inr (.inr (.inr (va_up (va_up (va_up (va_up (va_up (fun _ => none) (0 : Int32).toNatClampNeg (some (adr B 45))) (1 : Int32).toNatClampNeg (some (adr B 48))) (2 : Int32).toNatClampNeg (some (adr B 51))) (3 : Int32).toNatClampNeg (some (adr B 54))) (4 : Int32).toNatClampNeg (some (adr B 57))))))) := va_up_self _ _ _
  refine lv_iinc (v := 5) (lv' := [(1, .int 5), (0, .ref (adr B 0))]) hx hb dX4_init_73 hl (k := 0) rfl (by decide) (by decide) rfl (fun ls hl => ?_)
  refine lv_goto (tgt := 49) hx hb dX4_init_76 (by decide) ?_
  refine lv_iload_n hx hb dX4_init_49 rfl (lv_at hl 0 rfl) ?_
  refine lv_aload_n hx hb dX4_init_50 rfl (lv_at hl 1 rfl) ?_
  refine va_get (D := D) (ci := 4) (v := .ref (adr B 44)) (C := RX4) (T := TX4) (N := 3) hx hb hts inX4 hown hK hP 0 (n_at (by omega) f_0) rfl 1 (by decide) (hts _ k_102) (fun _ h9 => h9) rfl dX4_init_51 ?_
  refine va_alen (v := 9) hx hb hK hP 44 3 (n_at (by omega) f_44) rfl rfl dX4_init_54 ?_
  refine lv_icmp_ge (tgt := 79) hx hb dX4_init_55 (by decide) (fun h1 => absurd h1 (by decide)) (fun h1 => ?_)
  refine lv_aload_n hx hb dX4_init_58 rfl (lv_at hl 1 rfl) ?_
  refine va_get (D := D) (ci := 4) (v := .ref (adr B 44)) (C := RX4) (T := TX4) (N := 3) hx hb hts inX4 hown hK hP 0 (n_at (by omega) f_0) rfl 1 (by decide) (hts _ k_102) (fun _ h9 => h9) rfl dX4_init_59 ?_
  refine lv_iload_n hx hb dX4_init_62 rfl (lv_at hl 0 rfl) ?_
  refine n_newo (ci := 1) (fs := [.null, .null, .int 0, .int 0]) (C := RX1) (T := TX1) (F := 4) hx hb hts inX1 tyX1 tyX1_ok hown (hts _ k_99) (hts _ k_63) (hts _ k_5) hK hP hS hBs hB rfl (fun j hj => by rcases (show j = 0 ∨ j = 1 ∨ j = 2 ∨ j = 3 by omega) with rfl | rfl | rfl | rfl <;> rfl) (Nat.le_of_ble_eq_true rfl) (Nat.le_of_ble_eq_true rfl) dX4_init_63 (fun H hP hS => ?_)
  have hP : va_P D vwCl (mw 61 (adr B) (w_G_29 cs B g)) H := hP
  have f_0 : (w_G_29 cs B g) 0 = .inr (4, [.ref (adr B 1), .ref (adr B 44), .null]) := (va_up_ne _ _ (by omega)).trans f_0
  have f_1 : (w_G_29 cs B g) 1 = .inl (cs 2, 3, .inr (.inr (.inr (.inr (va_up (va_up (va_up (fun _ => none) (0 : Int32).toNatClampNeg (some (adr B 2))) (1 : Int32).toNatClampNeg (some (adr B 16))) (2 : Int32).toNatClampNeg (some (adr B 30))))))) := (va_up_ne _ _ (by omega)).trans f_1
  have f_44 : (w_G_29 cs B g) 44 = .inl (cs 3, 9, .inr (.inr (.inr (.inr (va_up (va_up (va_up (va_up (va_up (fun _ => none) (0 : Int32).toNatClampNeg (some (adr B 45))) (1 : Int32).toNatClampNeg (some (adr B 48))) (2 : Int32).toNatClampNeg (some (adr B 51))) (3 : Int32).toNatClampNeg (some (adr B 54))) (4 : Int32).toNatClampNeg (some (adr B 57))))))) := (va_up_ne _ _ (by omega)).trans f_44
  have f_60 : (w_G_29 cs B g) 60 = .inr (1, [.null, .null, .int 0, .int 0]) := va_up_self _ _ _
  refine W.widen (k := 60) (n := 506) (Nat.le_of_ble_eq_true rfl) (Nat.le_of_ble_eq_true rfl) ?_
  have hB : s.heap.size + 60 = B + 61 := by omega
  refine lv_dup hx hb dX4_init_66 rfl ?_
  refine lv_bipush (v := 8) hx hb dX4_init_67 (by decide) ?_
  refine n_sized (fun hz => ?_)
  have hsz := n_size (N := 60) hP (by omega)
  refine n_call (va_runI (As := [.int 8]) (rest := [.ref (adr B 60), .int 5, .ref (adr B 44)]) ⟨hx, hb, hml, hown, hts⟩ (n_R8 l D cs B 60 (w_G_29 cs B g) f_60) (cwI 1 hts (gC k_66) rfl rfl rfl (hts _ k_5) (hts _ k_100) (hts _ k_65) rfl (by decide +kernel) ⟨Nat.le_of_ble_eq_true rfl, Nat.le_of_ble_eq_true rfl⟩) (n_pre hsz hK hX hP) rfl rfl hl.1 rfl (lv_room (Nat.le_of_ble_eq_true rfl)) dX4_init_69 ⟨Nat.le_of_ble_eq_true rfl, Nat.le_of_ble_eq_true rfl⟩) hS (fun H locs hP hS => ?_)
  have hP : va_P D vwCl (mw 63 (adr B) (w_G_30 cs B g)) H := hP
  have f_0 : (w_G_30 cs B g) 0 = .inr (4, [.ref (adr B 1), .ref (adr B 44), .null]) := (w_R8_4_keep (by omega)).trans f_0
  have f_1 : (w_G_30 cs B g) 1 = .inl (cs 2, 3, .inr (.inr (.inr (.inr (va_up (va_up (va_up (fun _ => none) (0 : Int32).toNatClampNeg (some (adr B 2))) (1 : Int32).toNatClampNeg (some (adr B 16))) (2 : Int32).toNatClampNeg (some (adr B 30))))))) := (w_R8_4_keep (by omega)).trans f_1
  have f_44 : (w_G_30 cs B g) 44 = .inl (cs 3, 9, .inr (.inr (.inr (.inr (va_up (va_up (va_up (va_up (va_up (fun _ => none) (0 : Int32).toNatClampNeg (some (adr B 45))) (1 : Int32).toNatClampNeg (some (adr B 48))) (2 : Int32).toNatClampNeg (some (adr B 51))) (3 : Int32).toNatClampNeg (some (adr B 54))) (4 : Int32).toNatClampNeg (some (adr B 57))))))) := (w_R8_4_keep (by omega)).trans f_44
  have f_60 : (w_G_30 cs B g) 60 = .inr (1, [.ref (adr B 61), .ref (adr B 62), .int 0, .int 0]) := n_R8_own _ _ _ _
  refine W.widen (k := 62) (n := 522) (Nat.le_of_ble_eq_true rfl) (Nat.le_of_ble_eq_true rfl) ?_
  have hB : s.heap.size + 62 = B + 63 := by omega
  refine va_astq (v := adr B 60) hx hb hK hP nD hS 44 3 60 1 (n_at (by omega) f_44) rfl (n_at (by omega) f_60) rfl (i := 5) (by unfold vp_in; decide) dX4_init_72 (fun H locs hP _ hS => ?_)
  have hP := n_put (by omega) hP
  have hP : va_P D vwCl (mw 63 (adr B) (w_G_31 cs B g)) H := hP
  have f_0 : (w_G_31 cs B g) 0 = .inr (4, [.ref (adr B 1), .ref (adr B 44), .null]) := (va_up_ne _ _ (by omega)).trans f_0
  have f_1 : (w_G_31 cs B g) 1 = .inl (cs 2, 3, .inr (.inr (.inr (.inr (va_up (va_up (va_up (fun _ => none) (0 : Int32).toNatClampNeg (some (adr B 2))) (1 : Int32).toNatClampNeg (some (adr B 16))) (2 : Int32).toNatClampNeg (some (adr B 30))))))) := (va_up_ne _ _ (by omega)).trans f_1
  have f_44 : (w_G_31 cs B g) 44 = .inl (cs 3, 9, .inr (.inr (.inr (.inr (va_up (va_up (va_up (va_up (va_up (va_up (fun _ => none) (0 : Int32).toNatClampNeg (some (adr B 45))) (1 : Int32).toNatClampNeg (some (adr B 48))) (2 : Int32).toNatClampNeg (some (adr B 51))) (3 : Int32).toNatClampNeg (some (adr B 54))) (4 : Int32).toNatClampNeg (some (adr B 57))) (5 : Int32).toNatClampNeg (some (adr B 60))))))) := va_up_self _ _ _
  refine lv_iinc (v := 6) (lv' := [(1, .int 6), (0, .ref (adr B 0))]) hx hb dX4_init_73 hl (k := 0) rfl (by decide) (by decide) rfl (fun ls hl => ?_)
  refine lv_goto (tgt := 49) hx hb dX4_init_76 (by decide) ?_
  refine lv_iload_n hx hb dX4_init_49 rfl (lv_at hl 0 rfl) ?_
  refine lv_aload_n hx hb dX4_init_50 rfl (lv_at hl 1 rfl) ?_
  refine va_get (D := D) (ci := 4) (v := .ref (adr B 44)) (C := RX4) (T := TX4) (N := 3) hx hb hts inX4 hown hK hP 0 (n_at (by omega) f_0) rfl 1 (by decide) (hts _ k_102) (fun _ h9 => h9) rfl dX4_init_51 ?_
  refine va_alen (v := 9) hx hb hK hP 44 3 (n_at (by omega) f_44) rfl rfl dX4_init_54 ?_
  refine lv_icmp_ge (tgt := 79) hx hb dX4_init_55 (by decide) (fun h1 => absurd h1 (by decide)) (fun h1 => ?_)
  refine lv_aload_n hx hb dX4_init_58 rfl (lv_at hl 1 rfl) ?_
  refine va_get (D := D) (ci := 4) (v := .ref (adr B 44)) (C := RX4) (T := TX4) (N := 3) hx hb hts inX4 hown hK hP 0 (n_at (by omega) f_0) rfl 1 (by decide) (hts _ k_102) (fun _ h9 => h9) rfl dX4_init_59 ?_
  refine lv_iload_n hx hb dX4_init_62 rfl (lv_at hl 0 rfl) ?_
  refine n_newo (ci := 1) (fs := [.null, .null, .int 0, .int 0]) (C := RX1) (T := TX1) (F := 4) hx hb hts inX1 tyX1 tyX1_ok hown (hts _ k_99) (hts _ k_63) (hts _ k_5) hK hP hS hBs hB rfl (fun j hj => by rcases (show j = 0 ∨ j = 1 ∨ j = 2 ∨ j = 3 by omega) with rfl | rfl | rfl | rfl <;> rfl) (Nat.le_of_ble_eq_true rfl) (Nat.le_of_ble_eq_true rfl) dX4_init_63 (fun H hP hS => ?_)
  have hP : va_P D vwCl (mw 64 (adr B) (w_G_32 cs B g)) H := hP
  have f_0 : (w_G_32 cs B g) 0 = .inr (4, [.ref (adr B 1), .ref (adr B 44), .null]) := (va_up_ne _ _ (by omega)).trans f_0
  have f_1 : (w_G_32 cs B g) 1 = .inl (cs 2, 3, .inr (.inr (.inr (.inr (va_up (va_up (va_up (fun _ => none) (0 : Int32).toNatClampNeg (some (adr B 2))) (1 : Int32).toNatClampNeg (some (adr B 16))) (2 : Int32).toNatClampNeg (some (adr B 30))))))) := (va_up_ne _ _ (by omega)).trans f_1
  have f_44 : (w_G_32 cs B g) 44 = .inl (cs 3, 9, .inr (.inr (.inr (.inr (va_up (va_up (va_up (va_up (va_up (va_up (fun _ => none) (0 : Int32).toNatClampNeg (some (adr B 45))) (1 : Int32).toNatClampNeg (some (adr B 48))) (2 : Int32).toNatClampNeg (some (adr B 51))) (3 : Int32).toNatClampNeg (some (adr B 54))) (4 : Int32).toNatClampNeg (some (adr B 57))) (5 : Int32).toNatClampNeg (some (adr B 60))))))) := (va_up_ne _ _ (by omega)).trans f_44
  have f_63 : (w_G_32 cs B g) 63 = .inr (1, [.null, .null, .int 0, .int 0]) := va_up_self _ _ _
  refine W.widen (k := 63) (n := 526) (Nat.le_of_ble_eq_true rfl) (Nat.le_of_ble_eq_true rfl) ?_
  have hB : s.heap.size + 63 = B + 64 := by omega
  refine lv_dup hx hb dX4_init_66 rfl ?_
  refine lv_bipush (v := 8) hx hb dX4_init_67 (by decide) ?_
  refine n_sized (fun hz => ?_)
  have hsz := n_size (N := 63) hP (by omega)
  refine n_call (va_runI (As := [.int 8]) (rest := [.ref (adr B 63), .int 6, .ref (adr B 44)]) ⟨hx, hb, hml, hown, hts⟩ (n_R8 l D cs B 63 (w_G_32 cs B g) f_63) (cwI 1 hts (gC k_66) rfl rfl rfl (hts _ k_5) (hts _ k_100) (hts _ k_65) rfl (by decide +kernel) ⟨Nat.le_of_ble_eq_true rfl, Nat.le_of_ble_eq_true rfl⟩) (n_pre hsz hK hX hP) rfl rfl hl.1 rfl (lv_room (Nat.le_of_ble_eq_true rfl)) dX4_init_69 ⟨Nat.le_of_ble_eq_true rfl, Nat.le_of_ble_eq_true rfl⟩) hS (fun H locs hP hS => ?_)
  have hP : va_P D vwCl (mw 66 (adr B) (w_G_33 cs B g)) H := hP
  have f_0 : (w_G_33 cs B g) 0 = .inr (4, [.ref (adr B 1), .ref (adr B 44), .null]) := (w_R8_4_keep (by omega)).trans f_0
  have f_1 : (w_G_33 cs B g) 1 = .inl (cs 2, 3, .inr (.inr (.inr (.inr (va_up (va_up (va_up (fun _ => none) (0 : Int32).toNatClampNeg (some (adr B 2))) (1 : Int32).toNatClampNeg (some (adr B 16))) (2 : Int32).toNatClampNeg (some (adr B 30))))))) := (w_R8_4_keep (by omega)).trans f_1
  have f_44 : (w_G_33 cs B g) 44 = .inl (cs 3, 9, .inr (.inr (.inr (.inr (va_up (va_up (va_up (va_up (va_up (va_up (fun _ => none) (0 : Int32).toNatClampNeg (some (adr B 45))) (1 : Int32).toNatClampNeg (some (adr B 48))) (2 : Int32).toNatClampNeg (some (adr B 51))) (3 : Int32).toNatClampNeg (some (adr B 54))) (4 : Int32).toNatClampNeg (some (adr B 57))) (5 : Int32).toNatClampNeg (some (adr B 60))))))) := (w_R8_4_keep (by omega)).trans f_44
  have f_63 : (w_G_33 cs B g) 63 = .inr (1, [.ref (adr B 64), .ref (adr B 65), .int 0, .int 0]) := n_R8_own _ _ _ _
  refine W.widen (k := 65) (n := 542) (Nat.le_of_ble_eq_true rfl) (Nat.le_of_ble_eq_true rfl) ?_
  have hB : s.heap.size + 65 = B + 66 := by omega
  refine va_astq (v := adr B 63) hx hb hK hP nD hS 44 3 63 1 (n_at (by omega) f_44) rfl (n_at (by omega) f_63) rfl (i := 6) (by unfold vp_in; decide) dX4_init_72 (fun H locs hP _ hS => ?_)
  have hP := n_put (by omega) hP
  have hP : va_P D vwCl (mw 66 (adr B) (w_G_34 cs B g)) H := hP
  have f_0 : (w_G_34 cs B g) 0 = .inr (4, [.ref (adr B 1), .ref (adr B 44), .null]) := (va_up_ne _ _ (by omega)).trans f_0
  have f_1 : (w_G_34 cs B g) 1 = .inl (cs 2, 3, .inr (.inr (.inr (.inr (va_up (va_up (va_up (fun _ => none) (0 : Int32).toNatClampNeg (some (adr B 2))) (1 : Int32).toNatClampNeg (some (adr B 16))) (2 : Int32).toNatClampNeg (some (adr B 30))))))) := (va_up_ne _ _ (by omega)).trans f_1
  have f_44 : (w_G_34 cs B g) 44 = .inl (cs 3, 9, .inr (.inr (.inr (.inr (va_up (va_up (va_up (va_up (va_up (va_up (va_up (fun _ => none) (0 : Int32).toNatClampNeg (some (adr B 45))) (1 : Int32).toNatClampNeg (some (adr B 48))) (2 : Int32).toNatClampNeg (some (adr B 51))) (3 : Int32).toNatClampNeg (some (adr B 54))) (4 : Int32).toNatClampNeg (some (adr B 57))) (5 : Int32).toNatClampNeg (some (adr B 60))) (6 : Int32).toNatClampNeg (some (adr B 63))))))) := va_up_self _ _ _
  refine lv_iinc (v := 7) (lv' := [(1, .int 7), (0, .ref (adr B 0))]) hx hb dX4_init_73 hl (k := 0) rfl (by decide) (by decide) rfl (fun ls hl => ?_)
  refine lv_goto (tgt := 49) hx hb dX4_init_76 (by decide) ?_
  refine lv_iload_n hx hb dX4_init_49 rfl (lv_at hl 0 rfl) ?_
  refine lv_aload_n hx hb dX4_init_50 rfl (lv_at hl 1 rfl) ?_
  refine va_get (D := D) (ci := 4) (v := .ref (adr B 44)) (C := RX4) (T := TX4) (N := 3) hx hb hts inX4 hown hK hP 0 (n_at (by omega) f_0) rfl 1 (by decide) (hts _ k_102) (fun _ h9 => h9) rfl dX4_init_51 ?_
  refine va_alen (v := 9) hx hb hK hP 44 3 (n_at (by omega) f_44) rfl rfl dX4_init_54 ?_
  refine lv_icmp_ge (tgt := 79) hx hb dX4_init_55 (by decide) (fun h1 => absurd h1 (by decide)) (fun h1 => ?_)
  refine lv_aload_n hx hb dX4_init_58 rfl (lv_at hl 1 rfl) ?_
  refine va_get (D := D) (ci := 4) (v := .ref (adr B 44)) (C := RX4) (T := TX4) (N := 3) hx hb hts inX4 hown hK hP 0 (n_at (by omega) f_0) rfl 1 (by decide) (hts _ k_102) (fun _ h9 => h9) rfl dX4_init_59 ?_
  refine lv_iload_n hx hb dX4_init_62 rfl (lv_at hl 0 rfl) ?_
  refine n_newo (ci := 1) (fs := [.null, .null, .int 0, .int 0]) (C := RX1) (T := TX1) (F := 4) hx hb hts inX1 tyX1 tyX1_ok hown (hts _ k_99) (hts _ k_63) (hts _ k_5) hK hP hS hBs hB rfl (fun j hj => by rcases (show j = 0 ∨ j = 1 ∨ j = 2 ∨ j = 3 by omega) with rfl | rfl | rfl | rfl <;> rfl) (Nat.le_of_ble_eq_true rfl) (Nat.le_of_ble_eq_true rfl) dX4_init_63 (fun H hP hS => ?_)
  have hP : va_P D vwCl (mw 67 (adr B) (w_G_35 cs B g)) H := hP
  have f_0 : (w_G_35 cs B g) 0 = .inr (4, [.ref (adr B 1), .ref (adr B 44), .null]) := (va_up_ne _ _ (by omega)).trans f_0
  have f_1 : (w_G_35 cs B g) 1 = .inl (cs 2, 3, .inr (.inr (.inr (.inr (va_up (va_up (va_up (fun _ => none) (0 : Int32).toNatClampNeg (some (adr B 2))) (1 : Int32).toNatClampNeg (some (adr B 16))) (2 : Int32).toNatClampNeg (some (adr B 30))))))) := (va_up_ne _ _ (by omega)).trans f_1
  have f_44 : (w_G_35 cs B g) 44 = .inl (cs 3, 9, .inr (.inr (.inr (.inr (va_up (va_up (va_up (va_up (va_up (va_up (va_up (fun _ => none) (0 : Int32).toNatClampNeg (some (adr B 45))) (1 : Int32).toNatClampNeg (some (adr B 48))) (2 : Int32).toNatClampNeg (some (adr B 51))) (3 : Int32).toNatClampNeg (some (adr B 54))) (4 : Int32).toNatClampNeg (some (adr B 57))) (5 : Int32).toNatClampNeg (some (adr B 60))) (6 : Int32).toNatClampNeg (some (adr B 63))))))) := (va_up_ne _ _ (by omega)).trans f_44
  have f_66 : (w_G_35 cs B g) 66 = .inr (1, [.null, .null, .int 0, .int 0]) := va_up_self _ _ _
  refine W.widen (k := 66) (n := 546) (Nat.le_of_ble_eq_true rfl) (Nat.le_of_ble_eq_true rfl) ?_
  have hB : s.heap.size + 66 = B + 67 := by omega
  refine lv_dup hx hb dX4_init_66 rfl ?_
  refine lv_bipush (v := 8) hx hb dX4_init_67 (by decide) ?_
  refine n_sized (fun hz => ?_)
  have hsz := n_size (N := 66) hP (by omega)
  refine n_call (va_runI (As := [.int 8]) (rest := [.ref (adr B 66), .int 7, .ref (adr B 44)]) ⟨hx, hb, hml, hown, hts⟩ (n_R8 l D cs B 66 (w_G_35 cs B g) f_66) (cwI 1 hts (gC k_66) rfl rfl rfl (hts _ k_5) (hts _ k_100) (hts _ k_65) rfl (by decide +kernel) ⟨Nat.le_of_ble_eq_true rfl, Nat.le_of_ble_eq_true rfl⟩) (n_pre hsz hK hX hP) rfl rfl hl.1 rfl (lv_room (Nat.le_of_ble_eq_true rfl)) dX4_init_69 ⟨Nat.le_of_ble_eq_true rfl, Nat.le_of_ble_eq_true rfl⟩) hS (fun H locs hP hS => ?_)
  have hP : va_P D vwCl (mw 69 (adr B) (w_G_36 cs B g)) H := hP
  have f_0 : (w_G_36 cs B g) 0 = .inr (4, [.ref (adr B 1), .ref (adr B 44), .null]) := (w_R8_4_keep (by omega)).trans f_0
  have f_1 : (w_G_36 cs B g) 1 = .inl (cs 2, 3, .inr (.inr (.inr (.inr (va_up (va_up (va_up (fun _ => none) (0 : Int32).toNatClampNeg (some (adr B 2))) (1 : Int32).toNatClampNeg (some (adr B 16))) (2 : Int32).toNatClampNeg (some (adr B 30))))))) := (w_R8_4_keep (by omega)).trans f_1
  have f_44 : (w_G_36 cs B g) 44 = .inl (cs 3, 9, .inr (.inr (.inr (.inr (va_up (va_up (va_up (va_up (va_up (va_up (va_up (fun _ => none) (0 : Int32).toNatClampNeg (some (adr B 45))) (1 : Int32).toNatClampNeg (some (adr B 48))) (2 : Int32).toNatClampNeg (some (adr B 51))) (3 : Int32).toNatClampNeg (some (adr B 54))) (4 : Int32).toNatClampNeg (some (adr B 57))) (5 : Int32).toNatClampNeg (some (adr B 60))) (6 : Int32).toNatClampNeg (some (adr B 63))))))) := (w_R8_4_keep (by omega)).trans f_44
  have f_66 : (w_G_36 cs B g) 66 = .inr (1, [.ref (adr B 67), .ref (adr B 68), .int 0, .int 0]) := n_R8_own _ _ _ _
  refine W.widen (k := 68) (n := 562) (Nat.le_of_ble_eq_true rfl) (Nat.le_of_ble_eq_true rfl) ?_
  have hB : s.heap.size + 68 = B + 69 := by omega
  refine va_astq (v := adr B 66) hx hb hK hP nD hS 44 3 66 1 (n_at (by omega) f_44) rfl (n_at (by omega) f_66) rfl (i := 7) (by unfold vp_in; decide) dX4_init_72 (fun H locs hP _ hS => ?_)
  have hP := n_put (by omega) hP
  have hP : va_P D vwCl (mw 69 (adr B) (w_G_37 cs B g)) H := hP
  have f_0 : (w_G_37 cs B g) 0 = .inr (4, [.ref (adr B 1), .ref (adr B 44), .null]) := (va_up_ne _ _ (by omega)).trans f_0
  have f_1 : (w_G_37 cs B g) 1 = .inl (cs 2, 3, .inr (.inr (.inr (.inr (va_up (va_up (va_up (fun _ => none) (0 : Int32).toNatClampNeg (some (adr B 2))) (1 : Int32).toNatClampNeg (some (adr B 16))) (2 : Int32).toNatClampNeg (some (adr B 30))))))) := (va_up_ne _ _ (by omega)).trans f_1
  have f_44 : (w_G_37 cs B g) 44 = .inl (cs 3, 9, .inr (.inr (.inr (.inr (va_up (va_up (va_up (va_up (va_up (va_up (va_up (va_up (fun _ => none) (0 : Int32).toNatClampNeg (some (adr B 45))) (1 : Int32).toNatClampNeg (some (adr B 48))) (2 : Int32).toNatClampNeg (some (adr B 51))) (3 : Int32).toNatClampNeg (some (adr B 54))) (4 : Int32).toNatClampNeg (some (adr B 57))) (5 : Int32).toNatClampNeg (some (adr B 60))) (6 : Int32).toNatClampNeg (some (adr B 63))) (7 : Int32).toNatClampNeg (some (adr B 66))))))) := va_up_self _ _ _
  refine lv_iinc (v := 8) (lv' := [(1, .int 8), (0, .ref (adr B 0))]) hx hb dX4_init_73 hl (k := 0) rfl (by decide) (by decide) rfl (fun ls hl => ?_)
  refine lv_goto (tgt := 49) hx hb dX4_init_76 (by decide) ?_
  refine lv_iload_n hx hb dX4_init_49 rfl (lv_at hl 0 rfl) ?_
  refine lv_aload_n hx hb dX4_init_50 rfl (lv_at hl 1 rfl) ?_
  refine va_get (D := D) (ci := 4) (v := .ref (adr B 44)) (C := RX4) (T := TX4) (N := 3) hx hb hts inX4 hown hK hP 0 (n_at (by omega) f_0) rfl 1 (by decide) (hts _ k_102) (fun _ h9 => h9) rfl dX4_init_51 ?_
  refine va_alen (v := 9) hx hb hK hP 44 3 (n_at (by omega) f_44) rfl rfl dX4_init_54 ?_
  refine lv_icmp_ge (tgt := 79) hx hb dX4_init_55 (by decide) (fun h1 => absurd h1 (by decide)) (fun h1 => ?_)
  refine lv_aload_n hx hb dX4_init_58 rfl (lv_at hl 1 rfl) ?_
  refine va_get (D := D) (ci := 4) (v := .ref (adr B 44)) (C := RX4) (T := TX4) (N := 3) hx hb hts inX4 hown hK hP 0 (n_at (by omega) f_0) rfl 1 (by decide) (hts _ k_102) (fun _ h9 => h9) rfl dX4_init_59 ?_
  refine lv_iload_n hx hb dX4_init_62 rfl (lv_at hl 0 rfl) ?_
  refine n_newo (ci := 1) (fs := [.null, .null, .int 0, .int 0]) (C := RX1) (T := TX1) (F := 4) hx hb hts inX1 tyX1 tyX1_ok hown (hts _ k_99) (hts _ k_63) (hts _ k_5) hK hP hS hBs hB rfl (fun j hj => by rcases (show j = 0 ∨ j = 1 ∨ j = 2 ∨ j = 3 by omega) with rfl | rfl | rfl | rfl <;> rfl) (Nat.le_of_ble_eq_true rfl) (Nat.le_of_ble_eq_true rfl) dX4_init_63 (fun H hP hS => ?_)
  have hP : va_P D vwCl (mw 70 (adr B) (w_G_38 cs B g)) H := hP
  have f_0 : (w_G_38 cs B g) 0 = .inr (4, [.ref (adr B 1), .ref (adr B 44), .null]) := (va_up_ne _ _ (by omega)).trans f_0
  have f_1 : (w_G_38 cs B g) 1 = .inl (cs 2, 3, .inr (.inr (.inr (.inr (va_up (va_up (va_up (fun _ => none) (0 : Int32).toNatClampNeg (some (adr B 2))) (1 : Int32).toNatClampNeg (some (adr B 16))) (2 : Int32).toNatClampNeg (some (adr B 30))))))) := (va_up_ne _ _ (by omega)).trans f_1
  have f_44 : (w_G_38 cs B g) 44 = .inl (cs 3, 9, .inr (.inr (.inr (.inr (va_up (va_up (va_up (va_up (va_up (va_up (va_up (va_up (fun _ => none) (0 : Int32).toNatClampNeg (some (adr B 45))) (1 : Int32).toNatClampNeg (some (adr B 48))) (2 : Int32).toNatClampNeg (some (adr B 51))) (3 : Int32).toNatClampNeg (some (adr B 54))) (4 : Int32).toNatClampNeg (some (adr B 57))) (5 : Int32).toNatClampNeg (some (adr B 60))) (6 : Int32).toNatClampNeg (some (adr B 63))) (7 : Int32).toNatClampNeg (some (adr B 66))))))) := (va_up_ne _ _ (by omega)).trans f_44
  have f_69 : (w_G_38 cs B g) 69 = .inr (1, [.null, .null, .int 0, .int 0]) := va_up_self _ _ _
  refine W.widen (k := 69) (n := 566) (Nat.le_of_ble_eq_true rfl) (Nat.le_of_ble_eq_true rfl) ?_
  have hB : s.heap.size + 69 = B + 70 := by omega
  refine lv_dup hx hb dX4_init_66 rfl ?_
  refine lv_bipush (v := 8) hx hb dX4_init_67 (by decide) ?_
  refine n_sized (fun hz => ?_)
  have hsz := n_size (N := 69) hP (by omega)
  refine n_call (va_runI (As := [.int 8]) (rest := [.ref (adr B 69), .int 8, .ref (adr B 44)]) ⟨hx, hb, hml, hown, hts⟩ (n_R8 l D cs B 69 (w_G_38 cs B g) f_69) (cwI 1 hts (gC k_66) rfl rfl rfl (hts _ k_5) (hts _ k_100) (hts _ k_65) rfl (by decide +kernel) ⟨Nat.le_of_ble_eq_true rfl, Nat.le_of_ble_eq_true rfl⟩) (n_pre hsz hK hX hP) rfl rfl hl.1 rfl (lv_room (Nat.le_of_ble_eq_true rfl)) dX4_init_69 ⟨Nat.le_of_ble_eq_true rfl, Nat.le_of_ble_eq_true rfl⟩) hS (fun H locs hP hS => ?_)
  have hP : va_P D vwCl (mw 72 (adr B) (w_G_39 cs B g)) H := hP
  have f_0 : (w_G_39 cs B g) 0 = .inr (4, [.ref (adr B 1), .ref (adr B 44), .null]) := (w_R8_4_keep (by omega)).trans f_0
  have f_1 : (w_G_39 cs B g) 1 = .inl (cs 2, 3, .inr (.inr (.inr (.inr (va_up (va_up (va_up (fun _ => none) (0 : Int32).toNatClampNeg (some (adr B 2))) (1 : Int32).toNatClampNeg (some (adr B 16))) (2 : Int32).toNatClampNeg (some (adr B 30))))))) := (w_R8_4_keep (by omega)).trans f_1
  have f_44 : (w_G_39 cs B g) 44 = .inl (cs 3, 9, .inr (.inr (.inr (.inr (va_up (va_up (va_up (va_up (va_up (va_up (va_up (va_up (fun _ => none) (0 : Int32).toNatClampNeg (some (adr B 45))) (1 : Int32).toNatClampNeg (some (adr B 48))) (2 : Int32).toNatClampNeg (some (adr B 51))) (3 : Int32).toNatClampNeg (some (adr B 54))) (4 : Int32).toNatClampNeg (some (adr B 57))) (5 : Int32).toNatClampNeg (some (adr B 60))) (6 : Int32).toNatClampNeg (some (adr B 63))) (7 : Int32).toNatClampNeg (some (adr B 66))))))) := (w_R8_4_keep (by omega)).trans f_44
  have f_69 : (w_G_39 cs B g) 69 = .inr (1, [.ref (adr B 70), .ref (adr B 71), .int 0, .int 0]) := n_R8_own _ _ _ _
  refine W.widen (k := 71) (n := 582) (Nat.le_of_ble_eq_true rfl) (Nat.le_of_ble_eq_true rfl) ?_
  have hB : s.heap.size + 71 = B + 72 := by omega
  refine va_astq (v := adr B 69) hx hb hK hP nD hS 44 3 69 1 (n_at (by omega) f_44) rfl (n_at (by omega) f_69) rfl (i := 8) (by unfold vp_in; decide) dX4_init_72 (fun H locs hP _ hS => ?_)
  have hP := n_put (by omega) hP
  have hP : va_P D vwCl (mw 72 (adr B) (w_G_40 cs B g)) H := hP
  have f_0 : (w_G_40 cs B g) 0 = .inr (4, [.ref (adr B 1), .ref (adr B 44), .null]) := (va_up_ne _ _ (by omega)).trans f_0
  have f_1 : (w_G_40 cs B g) 1 = .inl (cs 2, 3, .inr (.inr (.inr (.inr (va_up (va_up (va_up (fun _ => none) (0 : Int32).toNatClampNeg (some (adr B 2))) (1 : Int32).toNatClampNeg (some (adr B 16))) (2 : Int32).toNatClampNeg (some (adr B 30))))))) := (va_up_ne _ _ (by omega)).trans f_1
  have f_44 : (w_G_40 cs B g) 44 = .inl (cs 3, 9, .inr (.inr (.inr (.inr (va_up (va_up (va_up (va_up (va_up (va_up (va_up (va_up (va_up (fun _ => none) (0 : Int32).toNatClampNeg (some (adr B 45))) (1 : Int32).toNatClampNeg (some (adr B 48))) (2 : Int32).toNatClampNeg (some (adr B 51))) (3 : Int32).toNatClampNeg (some (adr B 54))) (4 : Int32).toNatClampNeg (some (adr B 57))) (5 : Int32).toNatClampNeg (some (adr B 60))) (6 : Int32).toNatClampNeg (some (adr B 63))) (7 : Int32).toNatClampNeg (some (adr B 66))) (8 : Int32).toNatClampNeg (some (adr B 69))))))) := va_up_self _ _ _
  refine lv_iinc (v := 9) (lv' := [(1, .int 9), (0, .ref (adr B 0))]) hx hb dX4_init_73 hl (k := 0) rfl (by decide) (by decide) rfl (fun ls hl => ?_)
  refine lv_goto (tgt := 49) hx hb dX4_init_76 (by decide) ?_
  refine lv_iload_n hx hb dX4_init_49 rfl (lv_at hl 0 rfl) ?_
  refine lv_aload_n hx hb dX4_init_50 rfl (lv_at hl 1 rfl) ?_
  refine va_get (D := D) (ci := 4) (v := .ref (adr B 44)) (C := RX4) (T := TX4) (N := 3) hx hb hts inX4 hown hK hP 0 (n_at (by omega) f_0) rfl 1 (by decide) (hts _ k_102) (fun _ h9 => h9) rfl dX4_init_51 ?_
  refine va_alen (v := 9) hx hb hK hP 44 3 (n_at (by omega) f_44) rfl rfl dX4_init_54 ?_
  refine lv_icmp_ge (tgt := 79) hx hb dX4_init_55 (by decide) (fun h1 => ?_) (fun h1 => absurd h1 (by decide))
  refine lv_aload_n hx hb dX4_init_79 rfl (lv_at hl 1 rfl) ?_
  refine n_newo (ci := 1) (fs := [.null, .null, .int 0, .int 0]) (C := RX1) (T := TX1) (F := 4) hx hb hts inX1 tyX1 tyX1_ok hown (hts _ k_99) (hts _ k_63) (hts _ k_5) hK hP hS hBs hB rfl (fun j hj => by rcases (show j = 0 ∨ j = 1 ∨ j = 2 ∨ j = 3 by omega) with rfl | rfl | rfl | rfl <;> rfl) (Nat.le_of_ble_eq_true rfl) (Nat.le_of_ble_eq_true rfl) dX4_init_80 (fun H hP hS => ?_)
  have hP : va_P D vwCl (mw 73 (adr B) (w_G_41 cs B g)) H := hP
  have f_0 : (w_G_41 cs B g) 0 = .inr (4, [.ref (adr B 1), .ref (adr B 44), .null]) := (va_up_ne _ _ (by omega)).trans f_0
  have f_1 : (w_G_41 cs B g) 1 = .inl (cs 2, 3, .inr (.inr (.inr (.inr (va_up (va_up (va_up (fun _ => none) (0 : Int32).toNatClampNeg (some (adr B 2))) (1 : Int32).toNatClampNeg (some (adr B 16))) (2 : Int32).toNatClampNeg (some (adr B 30))))))) := (va_up_ne _ _ (by omega)).trans f_1
  have f_44 : (w_G_41 cs B g) 44 = .inl (cs 3, 9, .inr (.inr (.inr (.inr (va_up (va_up (va_up (va_up (va_up (va_up (va_up (va_up (va_up (fun _ => none) (0 : Int32).toNatClampNeg (some (adr B 45))) (1 : Int32).toNatClampNeg (some (adr B 48))) (2 : Int32).toNatClampNeg (some (adr B 51))) (3 : Int32).toNatClampNeg (some (adr B 54))) (4 : Int32).toNatClampNeg (some (adr B 57))) (5 : Int32).toNatClampNeg (some (adr B 60))) (6 : Int32).toNatClampNeg (some (adr B 63))) (7 : Int32).toNatClampNeg (some (adr B 66))) (8 : Int32).toNatClampNeg (some (adr B 69))))))) := (va_up_ne _ _ (by omega)).trans f_44
  have f_72 : (w_G_41 cs B g) 72 = .inr (1, [.null, .null, .int 0, .int 0]) := va_up_self _ _ _
  refine W.widen (k := 72) (n := 586) (Nat.le_of_ble_eq_true rfl) (Nat.le_of_ble_eq_true rfl) ?_
  have hB : s.heap.size + 72 = B + 73 := by omega
  refine lv_dup hx hb dX4_init_83 rfl ?_
  refine lv_bipush (v := 60) hx hb dX4_init_84 (by decide) ?_
  refine n_sized (fun hz => ?_)
  have hsz := n_size (N := 72) hP (by omega)
  refine n_call (va_runI (As := [.int 60]) (rest := [.ref (adr B 72), .ref (adr B 0)]) ⟨hx, hb, hml, hown, hts⟩ (n_R60 l D cs B 72 (w_G_41 cs B g) f_72) (cwI 1 hts (gC k_66) rfl rfl rfl (hts _ k_5) (hts _ k_100) (hts _ k_65) rfl (by decide +kernel) ⟨Nat.le_of_ble_eq_true rfl, Nat.le_of_ble_eq_true rfl⟩) (n_pre hsz hK hX hP) rfl rfl hl.1 rfl (lv_room (Nat.le_of_ble_eq_true rfl)) dX4_init_86 ⟨Nat.le_of_ble_eq_true rfl, Nat.le_of_ble_eq_true rfl⟩) hS (fun H locs hP hS => ?_)
  have hP : va_P D vwCl (mw 75 (adr B) (w_G_42 cs B g)) H := hP
  have f_0 : (w_G_42 cs B g) 0 = .inr (4, [.ref (adr B 1), .ref (adr B 44), .null]) := (w_R60_4_keep (by omega)).trans f_0
  have f_1 : (w_G_42 cs B g) 1 = .inl (cs 2, 3, .inr (.inr (.inr (.inr (va_up (va_up (va_up (fun _ => none) (0 : Int32).toNatClampNeg (some (adr B 2))) (1 : Int32).toNatClampNeg (some (adr B 16))) (2 : Int32).toNatClampNeg (some (adr B 30))))))) := (w_R60_4_keep (by omega)).trans f_1
  have f_44 : (w_G_42 cs B g) 44 = .inl (cs 3, 9, .inr (.inr (.inr (.inr (va_up (va_up (va_up (va_up (va_up (va_up (va_up (va_up (va_up (fun _ => none) (0 : Int32).toNatClampNeg (some (adr B 45))) (1 : Int32).toNatClampNeg (some (adr B 48))) (2 : Int32).toNatClampNeg (some (adr B 51))) (3 : Int32).toNatClampNeg (some (adr B 54))) (4 : Int32).toNatClampNeg (some (adr B 57))) (5 : Int32).toNatClampNeg (some (adr B 60))) (6 : Int32).toNatClampNeg (some (adr B 63))) (7 : Int32).toNatClampNeg (some (adr B 66))) (8 : Int32).toNatClampNeg (some (adr B 69))))))) := (w_R60_4_keep (by omega)).trans f_44
  have f_72 : (w_G_42 cs B g) 72 = .inr (1, [.ref (adr B 73), .ref (adr B 74), .int 0, .int 0]) := n_R60_own _ _ _ _
  refine W.widen (k := 74) (n := 706) (Nat.le_of_ble_eq_true rfl) (Nat.le_of_ble_eq_true rfl) ?_
  have hB : s.heap.size + 74 = B + 75 := by omega
  refine va_putF (D := D) (ci := 4) (v := .ref (adr B 72)) (ty := .object "ReplayGroup$NumberedRow") (C := RX4) (T := TX4) (N := 3) hx hb hts inX4 tyX4 tyX4_ok nmX4 hown hK hP nD hS 0 (n_at (by omega) f_0) rfl 2 (by decide) (hts _ k_103) (fun _ h9 => h9) rfl hin rfl (by decide +kernel) rfl rfl (Nat.le_of_ble_eq_true rfl) dX4_init_89 (fun H locs hP _ hS => ?_)
  have hP := n_put (by omega) hP
  have hP : va_P D vwCl (mw 75 (adr B) (w_G_43 cs B g)) H := hP
  have f_1 : (w_G_43 cs B g) 1 = .inl (cs 2, 3, .inr (.inr (.inr (.inr (va_up (va_up (va_up (fun _ => none) (0 : Int32).toNatClampNeg (some (adr B 2))) (1 : Int32).toNatClampNeg (some (adr B 16))) (2 : Int32).toNatClampNeg (some (adr B 30))))))) := (va_up_ne _ _ (by omega)).trans f_1
  have f_44 : (w_G_43 cs B g) 44 = .inl (cs 3, 9, .inr (.inr (.inr (.inr (va_up (va_up (va_up (va_up (va_up (va_up (va_up (va_up (va_up (fun _ => none) (0 : Int32).toNatClampNeg (some (adr B 45))) (1 : Int32).toNatClampNeg (some (adr B 48))) (2 : Int32).toNatClampNeg (some (adr B 51))) (3 : Int32).toNatClampNeg (some (adr B 54))) (4 : Int32).toNatClampNeg (some (adr B 57))) (5 : Int32).toNatClampNeg (some (adr B 60))) (6 : Int32).toNatClampNeg (some (adr B 63))) (7 : Int32).toNatClampNeg (some (adr B 66))) (8 : Int32).toNatClampNeg (some (adr B 69))))))) := (va_up_ne _ _ (by omega)).trans f_44
  have f_72 : (w_G_43 cs B g) 72 = .inr (1, [.ref (adr B 73), .ref (adr B 74), .int 0, .int 0]) := (va_up_ne _ _ (by omega)).trans f_72
  have f_0 : (w_G_43 cs B g) 0 = .inr (4, [.ref (adr B 1), .ref (adr B 44), .ref (adr B 72)]) := va_up_self _ _ _
  exact n_ret hx hb hr hlocks dX4_init_92 hP hS

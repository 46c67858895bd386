def w_X_1 (cs : Nat → ClassId) (B : Nat) (g : Nat → va_E) : Nat → va_E := va_up g 76 (.inl (cs 0, 3, .inl (fun _ => 0)))
def w_X_2 (cs : Nat → ClassId) (B : Nat) (g : Nat → va_E) : Nat → va_E := va_up (w_X_1 cs B g) 75 (.inr (5, [.ref (adr B 76), .null, .null, .null, .null, .null, .null, .null, .null, .null, .null, .null, .null, .null, .null, .null, .int 0, .null, .null, .null, .null, .null, .int 0, .int 0, .int 0, .int 0]))
def w_X_3 (cs : Nat → ClassId) (B : Nat) (g : Nat → va_E) : Nat → va_E := va_up (w_X_2 cs B g) 77 (.inl (cs 0, 48, .inl (fun _ => 0)))
def w_X_4 (cs : Nat → ClassId) (B : Nat) (g : Nat → va_E) : Nat → va_E := va_up (w_X_3 cs B g) 75 (.inr (5, [.ref (adr B 76), .ref (adr B 77), .null, .null, .null, .null, .null, .null, .null, .null, .null, .null, .null, .null, .null, .null, .int 0, .null, .null, .null, .null, .null, .int 0, .int 0, .int 0, .int 0]))
def w_X_5 (cs : Nat → ClassId) (B : Nat) (g : Nat → va_E) : Nat → va_E := va_up (w_X_4 cs B g) 78 (.inl (cs 0, 48, .inl (fun _ => 0)))
def w_X_6 (cs : Nat → ClassId) (B : Nat) (g : Nat → va_E) : Nat → va_E := va_up (w_X_5 cs B g) 75 (.inr (5, [.ref (adr B 76), .ref (adr B 77), .ref (adr B 78), .null, .null, .null, .null, .null, .null, .null, .null, .null, .null, .null, .null, .null, .int 0, .null, .null, .null, .null, .null, .int 0, .int 0, .int 0, .int 0]))
def w_X_7 (cs : Nat → ClassId) (B : Nat) (g : Nat → va_E) : Nat → va_E := va_up (w_X_6 cs B g) 79 (.inl (cs 0, 48, .inl (fun _ => 0)))
def w_X_8 (cs : Nat → ClassId) (B : Nat) (g : Nat → va_E) : Nat → va_E := va_up (w_X_7 cs B g) 75 (.inr (5, [.ref (adr B 76), .ref (adr B 77), .ref (adr B 78), .ref (adr B 79), .null, .null, .null, .null, .null, .null, .null, .null, .null, .null, .null, .null, .int 0, .null, .null, .null, .null, .null, .int 0, .int 0, .int 0, .int 0]))
def w_X_9 (cs : Nat → ClassId) (B : Nat) (g : Nat → va_E) : Nat → va_E := va_up (w_X_8 cs B g) 80 (.inl (cs 1, 3, .inl (fun _ => 0)))
def w_X_10 (cs : Nat → ClassId) (B : Nat) (g : Nat → va_E) : Nat → va_E := va_up (w_X_9 cs B g) 75 (.inr (5, [.ref (adr B 76), .ref (adr B 77), .ref (adr B 78), .ref (adr B 79), .ref (adr B 80), .null, .null, .null, .null, .null, .null, .null, .null, .null, .null, .null, .int 0, .null, .null, .null, .null, .null, .int 0, .int 0, .int 0, .int 0]))
def w_X_11 (cs : Nat → ClassId) (B : Nat) (g : Nat → va_E) : Nat → va_E := va_up (w_X_10 cs B g) 81 (.inl (cs 0, 3, .inl (fun _ => 0)))
def w_X_12 (cs : Nat → ClassId) (B : Nat) (g : Nat → va_E) : Nat → va_E := va_up (w_X_11 cs B g) 75 (.inr (5, [.ref (adr B 76), .ref (adr B 77), .ref (adr B 78), .ref (adr B 79), .ref (adr B 80), .ref (adr B 81), .null, .null, .null, .null, .null, .null, .null, .null, .null, .null, .int 0, .null, .null, .null, .null, .null, .int 0, .int 0, .int 0, .int 0]))
def w_X_13 (cs : Nat → ClassId) (B : Nat) (g : Nat → va_E) : Nat → va_E := va_up (w_X_12 cs B g) 82 (.inl (cs 0, 3, .inl (fun _ => 0)))
def w_X_14 (cs : Nat → ClassId) (B : Nat) (g : Nat → va_E) : Nat → va_E := va_up (w_X_13 cs B g) 75 (.inr (5, [.ref (adr B 76), .ref (adr B 77), .ref (adr B 78), .ref (adr B 79), .ref (adr B 80), .ref (adr B 81), .ref (adr B 82), .null, .null, .null, .null, .null, .null, .null, .null, .null, .int 0, .null, .null, .null, .null, .null, .int 0, .int 0, .int 0, .int 0]))
def w_X_15 (cs : Nat → ClassId) (B : Nat) (g : Nat → va_E) : Nat → va_E := va_up (w_X_14 cs B g) 83 (.inl (cs 0, 3, .inl (fun _ => 0)))
def w_X_16 (cs : Nat → ClassId) (B : Nat) (g : Nat → va_E) : Nat → va_E := va_up (w_X_15 cs B g) 75 (.inr (5, [.ref (adr B 76), .ref (adr B 77), .ref (adr B 78), .ref (adr B 79), .ref (adr B 80), .ref (adr B 81), .ref (adr B 82), .ref (adr B 83), .null, .null, .null, .null, .null, .null, .null, .null, .int 0, .null, .null, .null, .null, .null, .int 0, .int 0, .int 0, .int 0]))
def w_X_17 (cs : Nat → ClassId) (B : Nat) (g : Nat → va_E) : Nat → va_E := va_up (w_X_16 cs B g) 84 (.inl (cs 1, 3, .inl (fun _ => 0)))
def w_X_18 (cs : Nat → ClassId) (B : Nat) (g : Nat → va_E) : Nat → va_E := va_up (w_X_17 cs B g) 75 (.inr (5, [.ref (adr B 76), .ref (adr B 77), .ref (adr B 78), .ref (adr B 79), .ref (adr B 80), .ref (adr B 81), .ref (adr B 82), .ref (adr B 83), .ref (adr B 84), .null, .null, .null, .null, .null, .null, .null, .int 0, .null, .null, .null, .null, .null, .int 0, .int 0, .int 0, .int 0]))
def w_X_19 (cs : Nat → ClassId) (B : Nat) (g : Nat → va_E) : Nat → va_E := va_up (w_X_18 cs B g) 85 (.inl (cs 0, 3, .inl (fun _ => 0)))
def w_X_20 (cs : Nat → ClassId) (B : Nat) (g : Nat → va_E) : Nat → va_E := va_up (w_X_19 cs B g) 75 (.inr (5, [.ref (adr B 76), .ref (adr B 77), .ref (adr B 78), .ref (adr B 79), .ref (adr B 80), .ref (adr B 81), .ref (adr B 82), .ref (adr B 83), .ref (adr B 84), .ref (adr B 85), .null, .null, .null, .null, .null, .null, .int 0, .null, .null, .null, .null, .null, .int 0, .int 0, .int 0, .int 0]))
def w_X_21 (cs : Nat → ClassId) (B : Nat) (g : Nat → va_E) : Nat → va_E := va_up (w_X_20 cs B g) 86 (.inl (cs 0, 3, .inl (fun _ => 0)))
def w_X_22 (cs : Nat → ClassId) (B : Nat) (g : Nat → va_E) : Nat → va_E := va_up (w_X_21 cs B g) 75 (.inr (5, [.ref (adr B 76), .ref (adr B 77), .ref (adr B 78), .ref (adr B 79), .ref (adr B 80), .ref (adr B 81), .ref (adr B 82), .ref (adr B 83), .ref (adr B 84), .ref (adr B 85), .ref (adr B 86), .null, .null, .null, .null, .null, .int 0, .null, .null, .null, .null, .null, .int 0, .int 0, .int 0, .int 0]))
def w_X_23 (cs : Nat → ClassId) (B : Nat) (g : Nat → va_E) : Nat → va_E := va_up (w_X_22 cs B g) 87 (.inl (cs 0, 1536, .inl (fun _ => 0)))
def w_X_24 (cs : Nat → ClassId) (B : Nat) (g : Nat → va_E) : Nat → va_E := va_up (w_X_23 cs B g) 75 (.inr (5, [.ref (adr B 76), .ref (adr B 77), .ref (adr B 78), .ref (adr B 79), .ref (adr B 80), .ref (adr B 81), .ref (adr B 82), .ref (adr B 83), .ref (adr B 84), .ref (adr B 85), .ref (adr B 86), .ref (adr B 87), .null, .null, .null, .null, .int 0, .null, .null, .null, .null, .null, .int 0, .int 0, .int 0, .int 0]))
def w_X_25 (cs : Nat → ClassId) (B : Nat) (g : Nat → va_E) : Nat → va_E := va_up (w_X_24 cs B g) 88 (.inl (cs 0, 1536, .inl (fun _ => 0)))
def w_X_26 (cs : Nat → ClassId) (B : Nat) (g : Nat → va_E) : Nat → va_E := va_up (w_X_25 cs B g) 75 (.inr (5, [.ref (adr B 76), .ref (adr B 77), .ref (adr B 78), .ref (adr B 79), .ref (adr B 80), .ref (adr B 81), .ref (adr B 82), .ref (adr B 83), .ref (adr B 84), .ref (adr B 85), .ref (adr B 86), .ref (adr B 87), .ref (adr B 88), .null, .null, .null, .int 0, .null, .null, .null, .null, .null, .int 0, .int 0, .int 0, .int 0]))
def w_X_27 (cs : Nat → ClassId) (B : Nat) (g : Nat → va_E) : Nat → va_E := va_up (w_X_26 cs B g) 89 (.inl (cs 0, 9, .inl (fun _ => 0)))
def w_X_28 (cs : Nat → ClassId) (B : Nat) (g : Nat → va_E) : Nat → va_E := va_up (w_X_27 cs B g) 75 (.inr (5, [.ref (adr B 76), .ref (adr B 77), .ref (adr B 78), .ref (adr B 79), .ref (adr B 80), .ref (adr B 81), .ref (adr B 82), .ref (adr B 83), .ref (adr B 84), .ref (adr B 85), .ref (adr B 86), .ref (adr B 87), .ref (adr B 88), .ref (adr B 89), .null, .null, .int 0, .null, .null, .null, .null, .null, .int 0, .int 0, .int 0, .int 0]))
def w_X_29 (cs : Nat → ClassId) (B : Nat) (g : Nat → va_E) : Nat → va_E := va_up (w_X_28 cs B g) 90 (.inl (cs 0, 9, .inl (fun _ => 0)))
def w_X_30 (cs : Nat → ClassId) (B : Nat) (g : Nat → va_E) : Nat → va_E := va_up (w_X_29 cs B g) 75 (.inr (5, [.ref (adr B 76), .ref (adr B 77), .ref (adr B 78), .ref (adr B 79), .ref (adr B 80), .ref (adr B 81), .ref (adr B 82), .ref (adr B 83), .ref (adr B 84), .ref (adr B 85), .ref (adr B 86), .ref (adr B 87), .ref (adr B 88), .ref (adr B 89), .ref (adr B 90), .null, .int 0, .null, .null, .null, .null, .null, .int 0, .int 0, .int 0, .int 0]))
def w_X_31 (cs : Nat → ClassId) (B : Nat) (g : Nat → va_E) : Nat → va_E := va_up (w_X_30 cs B g) 91 (.inl (cs 0, 72, .inl (fun _ => 0)))
def w_X_32 (cs : Nat → ClassId) (B : Nat) (g : Nat → va_E) : Nat → va_E := va_up (w_X_31 cs B g) 75 (.inr (5, [.ref (adr B 76), .ref (adr B 77), .ref (adr B 78), .ref (adr B 79), .ref (adr B 80), .ref (adr B 81), .ref (adr B 82), .ref (adr B 83), .ref (adr B 84), .ref (adr B 85), .ref (adr B 86), .ref (adr B 87), .ref (adr B 88), .ref (adr B 89), .ref (adr B 90), .ref (adr B 91), .int 0, .null, .null, .null, .null, .null, .int 0, .int 0, .int 0, .int 0]))
def w_X_33 (cs : Nat → ClassId) (B : Nat) (g : Nat → va_E) : Nat → va_E := va_up (w_X_32 cs B g) 92 (.inl (cs 0, 60, .inl (fun _ => 0)))
def w_X_34 (cs : Nat → ClassId) (B : Nat) (g : Nat → va_E) : Nat → va_E := va_up (w_X_33 cs B g) 75 (.inr (5, [.ref (adr B 76), .ref (adr B 77), .ref (adr B 78), .ref (adr B 79), .ref (adr B 80), .ref (adr B 81), .ref (adr B 82), .ref (adr B 83), .ref (adr B 84), .ref (adr B 85), .ref (adr B 86), .ref (adr B 87), .ref (adr B 88), .ref (adr B 89), .ref (adr B 90), .ref (adr B 91), .int 0, .ref (adr B 92), .null, .null, .null, .null, .int 0, .int 0, .int 0, .int 0]))
def w_X_35 (cs : Nat → ClassId) (B : Nat) (g : Nat → va_E) : Nat → va_E := va_up (w_X_34 cs B g) 93 (.inl (cs 0, 60, .inl (fun _ => 0)))
def w_X_36 (cs : Nat → ClassId) (B : Nat) (g : Nat → va_E) : Nat → va_E := va_up (w_X_35 cs B g) 75 (.inr (5, [.ref (adr B 76), .ref (adr B 77), .ref (adr B 78), .ref (adr B 79), .ref (adr B 80), .ref (adr B 81), .ref (adr B 82), .ref (adr B 83), .ref (adr B 84), .ref (adr B 85), .ref (adr B 86), .ref (adr B 87), .ref (adr B 88), .ref (adr B 89), .ref (adr B 90), .ref (adr B 91), .int 0, .ref (adr B 92), .ref (adr B 93), .null, .null, .null, .int 0, .int 0, .int 0, .int 0]))
def w_X_37 (cs : Nat → ClassId) (B : Nat) (g : Nat → va_E) : Nat → va_E := va_up (w_X_36 cs B g) 94 (.inl (cs 0, 3, .inl (fun _ => 0)))
def w_X_38 (cs : Nat → ClassId) (B : Nat) (g : Nat → va_E) : Nat → va_E := va_up (w_X_37 cs B g) 75 (.inr (5, [.ref (adr B 76), .ref (adr B 77), .ref (adr B 78), .ref (adr B 79), .ref (adr B 80), .ref (adr B 81), .ref (adr B 82), .ref (adr B 83), .ref (adr B 84), .ref (adr B 85), .ref (adr B 86), .ref (adr B 87), .ref (adr B 88), .ref (adr B 89), .ref (adr B 90), .ref (adr B 91), .int 0, .ref (adr B 92), .ref (adr B 93), .ref (adr B 94), .null, .null, .int 0, .int 0, .int 0, .int 0]))
def w_X_39 (cs : Nat → ClassId) (B : Nat) (g : Nat → va_E) : Nat → va_E := va_up (w_X_38 cs B g) 95 (.inl (cs 0, 4, .inl (fun _ => 0)))
def w_X_40 (cs : Nat → ClassId) (B : Nat) (g : Nat → va_E) : Nat → va_E := va_up (w_X_39 cs B g) 75 (.inr (5, [.ref (adr B 76), .ref (adr B 77), .ref (adr B 78), .ref (adr B 79), .ref (adr B 80), .ref (adr B 81), .ref (adr B 82), .ref (adr B 83), .ref (adr B 84), .ref (adr B 85), .ref (adr B 86), .ref (adr B 87), .ref (adr B 88), .ref (adr B 89), .ref (adr B 90), .ref (adr B 91), .int 0, .ref (adr B 92), .ref (adr B 93), .ref (adr B 94), .ref (adr B 95), .null, .int 0, .int 0, .int 0, .int 0]))
def w_X_41 (cs : Nat → ClassId) (B : Nat) (g : Nat → va_E) : Nat → va_E := va_up (w_X_40 cs B g) 96 (.inl (cs 0, 3, .inl (fun _ => 0)))
def w_X_42 (cs : Nat → ClassId) (B : Nat) (g : Nat → va_E) : Nat → va_E := va_up (w_X_41 cs B g) 75 (.inr (5, [.ref (adr B 76), .ref (adr B 77), .ref (adr B 78), .ref (adr B 79), .ref (adr B 80), .ref (adr B 81), .ref (adr B 82), .ref (adr B 83), .ref (adr B 84), .ref (adr B 85), .ref (adr B 86), .ref (adr B 87), .ref (adr B 88), .ref (adr B 89), .ref (adr B 90), .ref (adr B 91), .int 0, .ref (adr B 92), .ref (adr B 93), .ref (adr B 94), .ref (adr B 95), .ref (adr B 96), .int 0, .int 0, .int 0, .int 0]))
set_option maxHeartbeats 4000000 in
set_option maxRecDepth 100000 in
theorem n_X (l : Launch) (D : va_G) (cs : Nat → ClassId) (B : Nat) (g : Nat → va_E) (f_own : g 75 = .inr (5, [.null, .null, .null, .null, .null, .null, .null, .null, .null, .null, .null, .null, .null, .null, .null, .null, .int 0, .null, .null, .null, .null, .null, .int 0, .int 0, .int 0, .int 0])) : NC l yX5_init wX5_init { frames := 1, cells := 21, slots := 3460, locals := 24 } D cs B [.ref (adr B 75)] (76) g (97) (w_X_42 cs B g) 21 3460 := by
  refine n_enter (cc := cX5_init) (maxL := 1) (by decide +kernel) rfl (Nat.le_of_ble_eq_true rfl) ?_
  intro p e s m below meth c ls hx hb hr hml hown hts hlocks hin hz0 hK hX hP hS hl
  have hown : s.vm.findClass RX5 = some m.cls := hown
  have hin : meth.name = "<init>" := hin
  have hts : ∀ w ∈ gtbl, w.before _ s = true := fun w h => hts w (List.mem_cons_of_mem _ h)
  have hl : lv_has ls 1 [(0, .ref (adr B 75))] := hl
  have hBs : B ≤ s.heap.size := by omega
  have hB : s.heap.size + 0 = B + 76 := hz0
  refine lv_aload_n hx hb dX5_init_0 rfl (lv_at hl 0 rfl) ?_
  refine W.objInit hx hb hown (hts _ k_274) (hts _ k_15) (hts _ k_16) rfl (by rw [hml]; exact hl.1) rfl dX5_init_1 (Nat.le_of_ble_eq_true rfl) (Nat.le_of_ble_eq_true rfl) ?_
  refine W.eq (g2 := F0 m 4 ls []) rfl ?_
  refine lv_aload_n hx hb dX5_init_4 rfl (lv_at hl 0 rfl) ?_
  refine lv_iconst (v := 3) hx hb dX5_init_5 (by decide) ?_
  refine n_newi (n' := 3) hx hb (hts _ k_38) hK hP hS hBs hB (by decide) (by decide) (by decide) (Nat.le_of_ble_eq_true rfl) (Nat.le_of_ble_eq_true rfl) dX5_init_6 (fun H hP hS => ?_)
  have hP : va_P D vwCl (mw 77 (adr B) (w_X_1 cs B g)) H := hP
  have f_own : (w_X_1 cs B g) 75 = .inr (5, [.null, .null, .null, .null, .null, .null, .null, .null, .null, .null, .null, .null, .null, .null, .null, .null, .int 0, .null, .null, .null, .null, .null, .int 0, .int 0, .int 0, .int 0]) := (va_up_ne _ _ (by omega)).trans f_own
  have f_76 : (w_X_1 cs B g) 76 = .inl (cs 0, 3, .inl (fun _ => 0)) := va_up_self _ _ _
  refine W.widen (k := 1) (n := 3) (Nat.le_of_ble_eq_true rfl) (Nat.le_of_ble_eq_true rfl) ?_
  have hB : s.heap.size + 1 = B + 77 := by omega
  refine va_putF (D := D) (ci := 5) (v := .ref (adr B 76)) (ty := .array .int) (C := RX5) (T := TX5) (N := 26) hx hb hts inX5 tyX5 tyX5_ok nmX5 hown hK hP nD hS 75 (n_at (by omega) f_own) rfl 0 (by decide) (hts _ k_275) (fun _ h9 => h9) rfl hin rfl (by decide +kernel) rfl rfl (Nat.le_of_ble_eq_true rfl) dX5_init_8 (fun H locs hP _ hS => ?_)
  have hP := n_put (by omega) hP
  have hP : va_P D vwCl (mw 77 (adr B) (w_X_2 cs B g)) H := hP
  have f_76 : (w_X_2 cs B g) 76 = .inl (cs 0, 3, .inl (fun _ => 0)) := (va_up_ne _ _ (by omega)).trans f_76
  have f_75 : (w_X_2 cs B g) 75 = .inr (5, [.ref (adr B 76), .null, .null, .null, .null, .null, .null, .null, .null, .null, .null, .null, .null, .null, .null, .null, .int 0, .null, .null, .null, .null, .null, .int 0, .int 0, .int 0, .int 0]) := va_up_self _ _ _
  refine lv_aload_n hx hb dX5_init_11 rfl (lv_at hl 0 rfl) ?_
  refine lv_bipush (v := 48) hx hb dX5_init_12 (by decide) ?_
  refine n_newi (n' := 48) hx hb (hts _ k_38) hK hP hS hBs hB (by decide) (by decide) (by decide) (Nat.le_of_ble_eq_true rfl) (Nat.le_of_ble_eq_true rfl) dX5_init_14 (fun H hP hS => ?_)
  have hP : va_P D vwCl (mw 78 (adr B) (w_X_3 cs B g)) H := hP
  have f_75 : (w_X_3 cs B g) 75 = .inr (5, [.ref (adr B 76), .null, .null, .null, .null, .null, .null, .null, .null, .null, .null, .null, .null, .null, .null, .null, .int 0, .null, .null, .null, .null, .null, .int 0, .int 0, .int 0, .int 0]) := (va_up_ne _ _ (by omega)).trans f_75
  have f_76 : (w_X_3 cs B g) 76 = .inl (cs 0, 3, .inl (fun _ => 0)) := (va_up_ne _ _ (by omega)).trans f_76
  have f_77 : (w_X_3 cs B g) 77 = .inl (cs 0, 48, .inl (fun _ => 0)) := va_up_self _ _ _
  refine W.widen (k := 2) (n := 51) (Nat.le_of_ble_eq_true rfl) (Nat.le_of_ble_eq_true rfl) ?_
  have hB : s.heap.size + 2 = B + 78 := by omega
  refine va_putF (D := D) (ci := 5) (v := .ref (adr B 77)) (ty := .array .int) (C := RX5) (T := TX5) (N := 26) hx hb hts inX5 tyX5 tyX5_ok nmX5 hown hK hP nD hS 75 (n_at (by omega) f_75) rfl 1 (by decide) (hts _ k_276) (fun _ h9 => h9) rfl hin rfl (by decide +kernel) rfl rfl (Nat.le_of_ble_eq_true rfl) dX5_init_16 (fun H locs hP _ hS => ?_)
  have hP := n_put (by omega) hP
  have hP : va_P D vwCl (mw 78 (adr B) (w_X_4 cs B g)) H := hP
  have f_76 : (w_X_4 cs B g) 76 = .inl (cs 0, 3, .inl (fun _ => 0)) := (va_up_ne _ _ (by omega)).trans f_76
  have f_77 : (w_X_4 cs B g) 77 = .inl (cs 0, 48, .inl (fun _ => 0)) := (va_up_ne _ _ (by omega)).trans f_77
  have f_75 : (w_X_4 cs B g) 75 = .inr (5, [.ref (adr B 76), .ref (adr B 77), .null, .null, .null, .null, .null, .null, .null, .null, .null, .null, .null, .null, .null, .null, .int 0, .null, .null, .null, .null, .null, .int 0, .int 0, .int 0, .int 0]) := va_up_self _ _ _
  refine lv_aload_n hx hb dX5_init_19 rfl (lv_at hl 0 rfl) ?_
  refine lv_bipush (v := 48) hx hb dX5_init_20 (by decide) ?_
  refine n_newi (n' := 48) hx hb (hts _ k_38) hK hP hS hBs hB (by decide) (by decide) (by decide) (Nat.le_of_ble_eq_true rfl) (Nat.le_of_ble_eq_true rfl) dX5_init_22 (fun H hP hS => ?_)
  have hP : va_P D vwCl (mw 79 (adr B) (w_X_5 cs B g)) H := hP
  have f_75 : (w_X_5 cs B g) 75 = .inr (5, [.ref (adr B 76), .ref (adr B 77), .null, .null, .null, .null, .null, .null, .null, .null, .null, .null, .null, .null, .null, .null, .int 0, .null, .null, .null, .null, .null, .int 0, .int 0, .int 0, .int 0]) := (va_up_ne _ _ (by omega)).trans f_75
  have f_76 : (w_X_5 cs B g) 76 = .inl (cs 0, 3, .inl (fun _ => 0)) := (va_up_ne _ _ (by omega)).trans f_76
  have f_77 : (w_X_5 cs B g) 77 = .inl (cs 0, 48, .inl (fun _ => 0)) := (va_up_ne _ _ (by omega)).trans f_77
  have f_78 : (w_X_5 cs B g) 78 = .inl (cs 0, 48, .inl (fun _ => 0)) := va_up_self _ _ _
  refine W.widen (k := 3) (n := 99) (Nat.le_of_ble_eq_true rfl) (Nat.le_of_ble_eq_true rfl) ?_
  have hB : s.heap.size + 3 = B + 79 := by omega
  refine va_putF (D := D) (ci := 5) (v := .ref (adr B 78)) (ty := .array .int) (C := RX5) (T := TX5) (N := 26) hx hb hts inX5 tyX5 tyX5_ok nmX5 hown hK hP nD hS 75 (n_at (by omega) f_75) rfl 2 (by decide) (hts _ k_277) (fun _ h9 => h9) rfl hin rfl (by decide +kernel) rfl rfl (Nat.le_of_ble_eq_true rfl) dX5_init_24 (fun H locs hP _ hS => ?_)
  have hP := n_put (by omega) hP
  have hP : va_P D vwCl (mw 79 (adr B) (w_X_6 cs B g)) H := hP
  have f_76 : (w_X_6 cs B g) 76 = .inl (cs 0, 3, .inl (fun _ => 0)) := (va_up_ne _ _ (by omega)).trans f_76
  have f_77 : (w_X_6 cs B g) 77 = .inl (cs 0, 48, .inl (fun _ => 0)) := (va_up_ne _ _ (by omega)).trans f_77
  have f_78 : (w_X_6 cs B g) 78 = .inl (cs 0, 48, .inl (fun _ => 0)) := (va_up_ne _ _ (by omega)).trans f_78
  have f_75 : (w_X_6 cs B g) 75 = .inr (5, [.ref (adr B 76), .ref (adr B 77), .ref (adr B 78), .null, .null, .null, .null, .null, .null, .null, .null, .null, .null, .null, .null, .null, .int 0, .null, .null, .null, .null, .null, .int 0, .int 0, .int 0, .int 0]) := va_up_self _ _ _
  refine lv_aload_n hx hb dX5_init_27 rfl (lv_at hl 0 rfl) ?_
  refine lv_bipush (v := 48) hx hb dX5_init_28 (by decide) ?_
  refine n_newi (n' := 48) hx hb (hts _ k_38) hK hP hS hBs hB (by decide) (by decide) (by decide) (Nat.le_of_ble_eq_true rfl) (Nat.le_of_ble_eq_true rfl) dX5_init_30 (fun H hP hS => ?_)
  have hP : va_P D vwCl (mw 80 (adr B) (w_X_7 cs B g)) H := hP
  have f_75 : (w_X_7 cs B g) 75 = .inr (5, [.ref (adr B 76), .ref (adr B 77), .ref (adr B 78), .null, .null, .null, .null, .null, .null, .null, .null, .null, .null, .null, .null, .null, .int 0, .null, .null, .null, .null, .null, .int 0, .int 0, .int 0, .int 0]) := (va_up_ne _ _ (by omega)).trans f_75
  have f_76 : (w_X_7 cs B g) 76 = .inl (cs 0, 3, .inl (fun _ => 0)) := (va_up_ne _ _ (by omega)).trans f_76
  have f_77 : (w_X_7 cs B g) 77 = .inl (cs 0, 48, .inl (fun _ => 0)) := (va_up_ne _ _ (by omega)).trans f_77
  have f_78 : (w_X_7 cs B g) 78 = .inl (cs 0, 48, .inl (fun _ => 0)) := (va_up_ne _ _ (by omega)).trans f_78
  have f_79 : (w_X_7 cs B g) 79 = .inl (cs 0, 48, .inl (fun _ => 0)) := va_up_self _ _ _
  refine W.widen (k := 4) (n := 147) (Nat.le_of_ble_eq_true rfl) (Nat.le_of_ble_eq_true rfl) ?_
  have hB : s.heap.size + 4 = B + 80 := by omega
  refine va_putF (D := D) (ci := 5) (v := .ref (adr B 79)) (ty := .array .int) (C := RX5) (T := TX5) (N := 26) hx hb hts inX5 tyX5 tyX5_ok nmX5 hown hK hP nD hS 75 (n_at (by omega) f_75) rfl 3 (by decide) (hts _ k_278) (fun _ h9 => h9) rfl hin rfl (by decide +kernel) rfl rfl (Nat.le_of_ble_eq_true rfl) dX5_init_32 (fun H locs hP _ hS => ?_)
  have hP := n_put (by omega) hP
  have hP : va_P D vwCl (mw 80 (adr B) (w_X_8 cs B g)) H := hP
  have f_76 : (w_X_8 cs B g) 76 = .inl (cs 0, 3, .inl (fun _ => 0)) := (va_up_ne _ _ (by omega)).trans f_76
  have f_77 : (w_X_8 cs B g) 77 = .inl (cs 0, 48, .inl (fun _ => 0)) := (va_up_ne _ _ (by omega)).trans f_77
  have f_78 : (w_X_8 cs B g) 78 = .inl (cs 0, 48, .inl (fun _ => 0)) := (va_up_ne _ _ (by omega)).trans f_78
  have f_79 : (w_X_8 cs B g) 79 = .inl (cs 0, 48, .inl (fun _ => 0)) := (va_up_ne _ _ (by omega)).trans f_79
  have f_75 : (w_X_8 cs B g) 75 = .inr (5, [.ref (adr B 76), .ref (adr B 77), .ref (adr B 78), .ref (adr B 79), .null, .null, .null, .null, .null, .null, .null, .null, .null, .null, .null, .null, .int 0, .null, .null, .null, .null, .null, .int 0, .int 0, .int 0, .int 0]) := va_up_self _ _ _
  refine lv_aload_n hx hb dX5_init_35 rfl (lv_at hl 0 rfl) ?_
  refine lv_iconst (v := 3) hx hb dX5_init_36 (by decide) ?_
  refine n_newz (n' := 3) hx hb (hts _ k_327) hK hP hS hBs hB (by decide) (by decide) (by decide) (Nat.le_of_ble_eq_true rfl) (Nat.le_of_ble_eq_true rfl) dX5_init_37 (fun H hP hS => ?_)
  have hP : va_P D vwCl (mw 81 (adr B) (w_X_9 cs B g)) H := hP
  have f_75 : (w_X_9 cs B g) 75 = .inr (5, [.ref (adr B 76), .ref (adr B 77), .ref (adr B 78), .ref (adr B 79), .null, .null, .null, .null, .null, .null, .null, .null, .null, .null, .null, .null, .int 0, .null, .null, .null, .null, .null, .int 0, .int 0, .int 0, .int 0]) := (va_up_ne _ _ (by omega)).trans f_75
  have f_76 : (w_X_9 cs B g) 76 = .inl (cs 0, 3, .inl (fun _ => 0)) := (va_up_ne _ _ (by omega)).trans f_76
  have f_77 : (w_X_9 cs B g) 77 = .inl (cs 0, 48, .inl (fun _ => 0)) := (va_up_ne _ _ (by omega)).trans f_77
  have f_78 : (w_X_9 cs B g) 78 = .inl (cs 0, 48, .inl (fun _ => 0)) := (va_up_ne _ _ (by omega)).trans f_78
  have f_79 : (w_X_9 cs B g) 79 = .inl (cs 0, 48, .inl (fun _ => 0)) := (va_up_ne _ _ (by omega)).trans f_79
  have f_80 : (w_X_9 cs B g) 80 = .inl (cs 1, 3, .inl (fun _ => 0)) := va_up_self _ _ _
  refine W.widen (k := 5) (n := 150) (Nat.le_of_ble_eq_true rfl) (Nat.le_of_ble_eq_true rfl) ?_
  have hB : s.heap.size + 5 = B + 81 := by omega
  refine va_putF (D := D) (ci := 5) (v := .ref (adr B 80)) (ty := .array .boolean) (C := RX5) (T := TX5) (N := 26) hx hb hts inX5 tyX5 tyX5_ok nmX5 hown hK hP nD hS 75 (n_at (by omega) f_75) rfl 4 (by decide) (hts _ k_279) (fun _ h9 => h9) rfl hin rfl (by decide +kernel) rfl rfl (Nat.le_of_ble_eq_true rfl) dX5_init_39 (fun H locs hP _ hS => ?_)
  have hP := n_put (by omega) hP
  have hP : va_P D vwCl (mw 81 (adr B) (w_X_10 cs B g)) H := hP
  have f_76 : (w_X_10 cs B g) 76 = .inl (cs 0, 3, .inl (fun _ => 0)) := (va_up_ne _ _ (by omega)).trans f_76
  have f_77 : (w_X_10 cs B g) 77 = .inl (cs 0, 48, .inl (fun _ => 0)) := (va_up_ne _ _ (by omega)).trans f_77
  have f_78 : (w_X_10 cs B g) 78 = .inl (cs 0, 48, .inl (fun _ => 0)) := (va_up_ne _ _ (by omega)).trans f_78
  have f_79 : (w_X_10 cs B g) 79 = .inl (cs 0, 48, .inl (fun _ => 0)) := (va_up_ne _ _ (by omega)).trans f_79
  have f_80 : (w_X_10 cs B g) 80 = .inl (cs 1, 3, .inl (fun _ => 0)) := (va_up_ne _ _ (by omega)).trans f_80
  have f_75 : (w_X_10 cs B g) 75 = .inr (5, [.ref (adr B 76), .ref (adr B 77), .ref (adr B 78), .ref (adr B 79), .ref (adr B 80), .null, .null, .null, .null, .null, .null, .null, .null, .null, .null, .null, .int 0, .null, .null, .null, .null, .null, .int 0, .int 0, .int 0, .int 0]) := va_up_self _ _ _
  refine lv_aload_n hx hb dX5_init_42 rfl (lv_at hl 0 rfl) ?_
  refine lv_iconst (v := 3) hx hb dX5_init_43 (by decide) ?_
  refine n_newi (n' := 3) hx hb (hts _ k_38) hK hP hS hBs hB (by decide) (by decide) (by decide) (Nat.le_of_ble_eq_true rfl) (Nat.le_of_ble_eq_true rfl) dX5_init_44 (fun H hP hS => ?_)
  have hP : va_P D vwCl (mw 82 (adr B) (w_X_11 cs B g)) H := hP
  have f_75 : (w_X_11 cs B g) 75 = .inr (5, [.ref (adr B 76), .ref (adr B 77), .ref (adr B 78), .ref (adr B 79), .ref (adr B 80), .null, .null, .null, .null, .null, .null, .null, .null, .null, .null, .null, .int 0, .null, .null, .null, .null, .null, .int 0, .int 0, .int 0, .int 0]) := (va_up_ne _ _ (by omega)).trans f_75
  have f_76 : (w_X_11 cs B g) 76 = .inl (cs 0, 3, .inl (fun _ => 0)) := (va_up_ne _ _ (by omega)).trans f_76
  have f_77 : (w_X_11 cs B g) 77 = .inl (cs 0, 48, .inl (fun _ => 0)) := (va_up_ne _ _ (by omega)).trans f_77
  have f_78 : (w_X_11 cs B g) 78 = .inl (cs 0, 48, .inl (fun _ => 0)) := (va_up_ne _ _ (by omega)).trans f_78
  have f_79 : (w_X_11 cs B g) 79 = .inl (cs 0, 48, .inl (fun _ => 0)) := (va_up_ne _ _ (by omega)).trans f_79
  have f_80 : (w_X_11 cs B g) 80 = .inl (cs 1, 3, .inl (fun _ => 0)) := (va_up_ne _ _ (by omega)).trans f_80
  have f_81 : (w_X_11 cs B g) 81 = .inl (cs 0, 3, .inl (fun _ => 0)) := va_up_self _ _ _
  refine W.widen (k := 6) (n := 153) (Nat.le_of_ble_eq_true rfl) (Nat.le_of_ble_eq_true rfl) ?_
  have hB : s.heap.size + 6 = B + 82 := by omega
  refine va_putF (D := D) (ci := 5) (v := .ref (adr B 81)) (ty := .array .int) (C := RX5) (T := TX5) (N := 26) hx hb hts inX5 tyX5 tyX5_ok nmX5 hown hK hP nD hS 75 (n_at (by omega) f_75) rfl 5 (by decide) (hts _ k_280) (fun _ h9 => h9) rfl hin rfl (by decide +kernel) rfl rfl (Nat.le_of_ble_eq_true rfl) dX5_init_46 (fun H locs hP _ hS => ?_)
  have hP := n_put (by omega) hP
  have hP : va_P D vwCl (mw 82 (adr B) (w_X_12 cs B g)) H := hP
  have f_76 : (w_X_12 cs B g) 76 = .inl (cs 0, 3, .inl (fun _ => 0)) := (va_up_ne _ _ (by omega)).trans f_76
  have f_77 : (w_X_12 cs B g) 77 = .inl (cs 0, 48, .inl (fun _ => 0)) := (va_up_ne _ _ (by omega)).trans f_77
  have f_78 : (w_X_12 cs B g) 78 = .inl (cs 0, 48, .inl (fun _ => 0)) := (va_up_ne _ _ (by omega)).trans f_78
  have f_79 : (w_X_12 cs B g) 79 = .inl (cs 0, 48, .inl (fun _ => 0)) := (va_up_ne _ _ (by omega)).trans f_79
  have f_80 : (w_X_12 cs B g) 80 = .inl (cs 1, 3, .inl (fun _ => 0)) := (va_up_ne _ _ (by omega)).trans f_80
  have f_81 : (w_X_12 cs B g) 81 = .inl (cs 0, 3, .inl (fun _ => 0)) := (va_up_ne _ _ (by omega)).trans f_81
  have f_75 : (w_X_12 cs B g) 75 = .inr (5, [.ref (adr B 76), .ref (adr B 77), .ref (adr B 78), .ref (adr B 79), .ref (adr B 80), .ref (adr B 81), .null, .null, .null, .null, .null, .null, .null, .null, .null, .null, .int 0, .null, .null, .null, .null, .null, .int 0, .int 0, .int 0, .int 0]) := va_up_self _ _ _
  refine lv_aload_n hx hb dX5_init_49 rfl (lv_at hl 0 rfl) ?_
  refine lv_iconst (v := 3) hx hb dX5_init_50 (by decide) ?_
  refine n_newi (n' := 3) hx hb (hts _ k_38) hK hP hS hBs hB (by decide) (by decide) (by decide) (Nat.le_of_ble_eq_true rfl) (Nat.le_of_ble_eq_true rfl) dX5_init_51 (fun H hP hS => ?_)
  have hP : va_P D vwCl (mw 83 (adr B) (w_X_13 cs B g)) H := hP
  have f_75 : (w_X_13 cs B g) 75 = .inr (5, [.ref (adr B 76), .ref (adr B 77), .ref (adr B 78), .ref (adr B 79), .ref (adr B 80), .ref (adr B 81), .null, .null, .null, .null, .null, .null, .null, .null, .null, .null, .int 0, .null, .null, .null, .null, .null, .int 0, .int 0, .int 0, .int 0]) := (va_up_ne _ _ (by omega)).trans f_75
  have f_76 : (w_X_13 cs B g) 76 = .inl (cs 0, 3, .inl (fun _ => 0)) := (va_up_ne _ _ (by omega)).trans f_76
  have f_77 : (w_X_13 cs B g) 77 = .inl (cs 0, 48, .inl (fun _ => 0)) := (va_up_ne _ _ (by omega)).trans f_77
  have f_78 : (w_X_13 cs B g) 78 = .inl (cs 0, 48, .inl (fun _ => 0)) := (va_up_ne _ _ (by omega)).trans f_78
  have f_79 : (w_X_13 cs B g) 79 = .inl (cs 0, 48, .inl (fun _ => 0)) := (va_up_ne _ _ (by omega)).trans f_79
  have f_80 : (w_X_13 cs B g) 80 = .inl (cs 1, 3, .inl (fun _ => 0)) := (va_up_ne _ _ (by omega)).trans f_80
  have f_81 : (w_X_13 cs B g) 81 = .inl (cs 0, 3, .inl (fun _ => 0)) := (va_up_ne _ _ (by omega)).trans f_81
  have f_82 : (w_X_13 cs B g) 82 = .inl (cs 0, 3, .inl (fun _ => 0)) := va_up_self _ _ _
  refine W.widen (k := 7) (n := 156) (Nat.le_of_ble_eq_true rfl) (Nat.le_of_ble_eq_true rfl) ?_
  have hB : s.heap.size + 7 = B + 83 := by omega
  refine va_putF (D := D) (ci := 5) (v := .ref (adr B 82)) (ty := .array .int) (C := RX5) (T := TX5) (N := 26) hx hb hts inX5 tyX5 tyX5_ok nmX5 hown hK hP nD hS 75 (n_at (by omega) f_75) rfl 6 (by decide) (hts _ k_281) (fun _ h9 => h9) rfl hin rfl (by decide +kernel) rfl rfl (Nat.le_of_ble_eq_true rfl) dX5_init_53 (fun H locs hP _ hS => ?_)
  have hP := n_put (by omega) hP
  have hP : va_P D vwCl (mw 83 (adr B) (w_X_14 cs B g)) H := hP
  have f_76 : (w_X_14 cs B g) 76 = .inl (cs 0, 3, .inl (fun _ => 0)) := (va_up_ne _ _ (by omega)).trans f_76
  have f_77 : (w_X_14 cs B g) 77 = .inl (cs 0, 48, .inl (fun _ => 0)) := (va_up_ne _ _ (by omega)).trans f_77
  have f_78 : (w_X_14 cs B g) 78 = .inl (cs 0, 48, .inl (fun _ => 0)) := (va_up_ne _ _ (by omega)).trans f_78
  have f_79 : (w_X_14 cs B g) 79 = .inl (cs 0, 48, .inl (fun _ => 0)) := (va_up_ne _ _ (by omega)).trans f_79
  have f_80 : (w_X_14 cs B g) 80 = .inl (cs 1, 3, .inl (fun _ => 0)) := (va_up_ne _ _ (by omega)).trans f_80
  have f_81 : (w_X_14 cs B g) 81 = .inl (cs 0, 3, .inl (fun _ => 0)) := (va_up_ne _ _ (by omega)).trans f_81
  have f_82 : (w_X_14 cs B g) 82 = .inl (cs 0, 3, .inl (fun _ => 0)) := (va_up_ne _ _ (by omega)).trans f_82
  have f_75 : (w_X_14 cs B g) 75 = .inr (5, [.ref (adr B 76), .ref (adr B 77), .ref (adr B 78), .ref (adr B 79), .ref (adr B 80), .ref (adr B 81), .ref (adr B 82), .null, .null, .null, .null, .null, .null, .null, .null, .null, .int 0, .null, .null, .null, .null, .null, .int 0, .int 0, .int 0, .int 0]) := va_up_self _ _ _
  refine lv_aload_n hx hb dX5_init_56 rfl (lv_at hl 0 rfl) ?_
  refine lv_iconst (v := 3) hx hb dX5_init_57 (by decide) ?_
  refine n_newi (n' := 3) hx hb (hts _ k_38) hK hP hS hBs hB (by decide) (by decide) (by decide) (Nat.le_of_ble_eq_true rfl) (Nat.le_of_ble_eq_true rfl) dX5_init_58 (fun H hP hS => ?_)
  have hP : va_P D vwCl (mw 84 (adr B) (w_X_15 cs B g)) H := hP
  have f_75 : (w_X_15 cs B g) 75 = .inr (5, [.ref (adr B 76), .ref (adr B 77), .ref (adr B 78), .ref (adr B 79), .ref (adr B 80), .ref (adr B 81), .ref (adr B 82), .null, .null, .null, .null, .null, .null, .null, .null, .null, .int 0, .null, .null, .null, .null, .null, .int 0, .int 0, .int 0, .int 0]) := (va_up_ne _ _ (by omega)).trans f_75
  have f_76 : (w_X_15 cs B g) 76 = .inl (cs 0, 3, .inl (fun _ => 0)) := (va_up_ne _ _ (by omega)).trans f_76
  have f_77 : (w_X_15 cs B g) 77 = .inl (cs 0, 48, .inl (fun _ => 0)) := (va_up_ne _ _ (by omega)).trans f_77
  have f_78 : (w_X_15 cs B g) 78 = .inl (cs 0, 48, .inl (fun _ => 0)) := (va_up_ne _ _ (by omega)).trans f_78
  have f_79 : (w_X_15 cs B g) 79 = .inl (cs 0, 48, .inl (fun _ => 0)) := (va_up_ne _ _ (by omega)).trans f_79
  have f_80 : (w_X_15 cs B g) 80 = .inl (cs 1, 3, .inl (fun _ => 0)) := (va_up_ne _ _ (by omega)).trans f_80
  have f_81 : (w_X_15 cs B g) 81 = .inl (cs 0, 3, .inl (fun _ => 0)) := (va_up_ne _ _ (by omega)).trans f_81
  have f_82 : (w_X_15 cs B g) 82 = .inl (cs 0, 3, .inl (fun _ => 0)) := (va_up_ne _ _ (by omega)).trans f_82
  have f_83 : (w_X_15 cs B g) 83 = .inl (cs 0, 3, .inl (fun _ => 0)) := va_up_self _ _ _
  refine W.widen (k := 8) (n := 159) (Nat.le_of_ble_eq_true rfl) (Nat.le_of_ble_eq_true rfl) ?_
  have hB : s.heap.size + 8 = B + 84 := by omega
  refine va_putF (D := D) (ci := 5) (v := .ref (adr B 83)) (ty := .array .int) (C := RX5) (T := TX5) (N := 26) hx hb hts inX5 tyX5 tyX5_ok nmX5 hown hK hP nD hS 75 (n_at (by omega) f_75) rfl 7 (by decide) (hts _ k_282) (fun _ h9 => h9) rfl hin rfl (by decide +kernel) rfl rfl (Nat.le_of_ble_eq_true rfl) dX5_init_60 (fun H locs hP _ hS => ?_)
  have hP := n_put (by omega) hP
  have hP : va_P D vwCl (mw 84 (adr B) (w_X_16 cs B g)) H := hP
  have f_76 : (w_X_16 cs B g) 76 = .inl (cs 0, 3, .inl (fun _ => 0)) := (va_up_ne _ _ (by omega)).trans f_76
  have f_77 : (w_X_16 cs B g) 77 = .inl (cs 0, 48, .inl (fun _ => 0)) := (va_up_ne _ _ (by omega)).trans f_77
  have f_78 : (w_X_16 cs B g) 78 = .inl (cs 0, 48, .inl (fun _ => 0)) := (va_up_ne _ _ (by omega)).trans f_78
  have f_79 : (w_X_16 cs B g) 79 = .inl (cs 0, 48, .inl (fun _ => 0)) := (va_up_ne _ _ (by omega)).trans f_79
  have f_80 : (w_X_16 cs B g) 80 = .inl (cs 1, 3, .inl (fun _ => 0)) := (va_up_ne _ _ (by omega)).trans f_80
  have f_81 : (w_X_16 cs B g) 81 = .inl (cs 0, 3, .inl (fun _ => 0)) := (va_up_ne _ _ (by omega)).trans f_81
  have f_82 : (w_X_16 cs B g) 82 = .inl (cs 0, 3, .inl (fun _ => 0)) := (va_up_ne _ _ (by omega)).trans f_82
  have f_83 : (w_X_16 cs B g) 83 = .inl (cs 0, 3, .inl (fun _ => 0)) := (va_up_ne _ _ (by omega)).trans f_83
  have f_75 : (w_X_16 cs B g) 75 = .inr (5, [.ref (adr B 76), .ref (adr B 77), .ref (adr B 78), .ref (adr B 79), .ref (adr B 80), .ref (adr B 81), .ref (adr B 82), .ref (adr B 83), .null, .null, .null, .null, .null, .null, .null, .null, .int 0, .null, .null, .null, .null, .null, .int 0, .int 0, .int 0, .int 0]) := va_up_self _ _ _
  refine lv_aload_n hx hb dX5_init_63 rfl (lv_at hl 0 rfl) ?_
  refine lv_iconst (v := 3) hx hb dX5_init_64 (by decide) ?_
  refine n_newz (n' := 3) hx hb (hts _ k_327) hK hP hS hBs hB (by decide) (by decide) (by decide) (Nat.le_of_ble_eq_true rfl) (Nat.le_of_ble_eq_true rfl) dX5_init_65 (fun H hP hS => ?_)
  have hP : va_P D vwCl (mw 85 (adr B) (w_X_17 cs B g)) H := hP
  have f_75 : (w_X_17 cs B g) 75 = .inr (5, [.ref (adr B 76), .ref (adr B 77), .ref (adr B 78), .ref (adr B 79), .ref (adr B 80), .ref (adr B 81), .ref (adr B 82), .ref (adr B 83), .null, .null, .null, .null, .null, .null, .null, .null, .int 0, .null, .null, .null, .null, .null, .int 0, .int 0, .int 0, .int 0]) := (va_up_ne _ _ (by omega)).trans f_75
  have f_76 : (w_X_17 cs B g) 76 = .inl (cs 0, 3, .inl (fun _ => 0)) := (va_up_ne _ _ (by omega)).trans f_76
  have f_77 : (w_X_17 cs B g) 77 = .inl (cs 0, 48, .inl (fun _ => 0)) := (va_up_ne _ _ (by omega)).trans f_77
  have f_78 : (w_X_17 cs B g) 78 = .inl (cs 0, 48, .inl (fun _ => 0)) := (va_up_ne _ _ (by omega)).trans f_78
  have f_79 : (w_X_17 cs B g) 79 = .inl (cs 0, 48, .inl (fun _ => 0)) := (va_up_ne _ _ (by omega)).trans f_79
  have f_80 : (w_X_17 cs B g) 80 = .inl (cs 1, 3, .inl (fun _ => 0)) := (va_up_ne _ _ (by omega)).trans f_80
  have f_81 : (w_X_17 cs B g) 81 = .inl (cs 0, 3, .inl (fun _ => 0)) := (va_up_ne _ _ (by omega)).trans f_81
  have f_82 : (w_X_17 cs B g) 82 = .inl (cs 0, 3, .inl (fun _ => 0)) := (va_up_ne _ _ (by omega)).trans f_82
  have f_83 : (w_X_17 cs B g) 83 = .inl (cs 0, 3, .inl (fun _ => 0)) := (va_up_ne _ _ (by omega)).trans f_83
  have f_84 : (w_X_17 cs B g) 84 = .inl (cs 1, 3, .inl (fun _ => 0)) := va_up_self _ _ _
  refine W.widen (k := 9) (n := 162) (Nat.le_of_ble_eq_true rfl) (Nat.le_of_ble_eq_true rfl) ?_
  have hB : s.heap.size + 9 = B + 85 := by omega
  refine va_putF (D := D) (ci := 5) (v := .ref (adr B 84)) (ty := .array .boolean) (C := RX5) (T := TX5) (N := 26) hx hb hts inX5 tyX5 tyX5_ok nmX5 hown hK hP nD hS 75 (n_at (by omega) f_75) rfl 8 (by decide) (hts _ k_283) (fun _ h9 => h9) rfl hin rfl (by decide +kernel) rfl rfl (Nat.le_of_ble_eq_true rfl) dX5_init_67 (fun H locs hP _ hS => ?_)
  have hP := n_put (by omega) hP
  have hP : va_P D vwCl (mw 85 (adr B) (w_X_18 cs B g)) H := hP
  have f_76 : (w_X_18 cs B g) 76 = .inl (cs 0, 3, .inl (fun _ => 0)) := (va_up_ne _ _ (by omega)).trans f_76
  have f_77 : (w_X_18 cs B g) 77 = .inl (cs 0, 48, .inl (fun _ => 0)) := (va_up_ne _ _ (by omega)).trans f_77
  have f_78 : (w_X_18 cs B g) 78 = .inl (cs 0, 48, .inl (fun _ => 0)) := (va_up_ne _ _ (by omega)).trans f_78
  have f_79 : (w_X_18 cs B g) 79 = .inl (cs 0, 48, .inl (fun _ => 0)) := (va_up_ne _ _ (by omega)).trans f_79
  have f_80 : (w_X_18 cs B g) 80 = .inl (cs 1, 3, .inl (fun _ => 0)) := (va_up_ne _ _ (by omega)).trans f_80
  have f_81 : (w_X_18 cs B g) 81 = .inl (cs 0, 3, .inl (fun _ => 0)) := (va_up_ne _ _ (by omega)).trans f_81
  have f_82 : (w_X_18 cs B g) 82 = .inl (cs 0, 3, .inl (fun _ => 0)) := (va_up_ne _ _ (by omega)).trans f_82
  have f_83 : (w_X_18 cs B g) 83 = .inl (cs 0, 3, .inl (fun _ => 0)) := (va_up_ne _ _ (by omega)).trans f_83
  have f_84 : (w_X_18 cs B g) 84 = .inl (cs 1, 3, .inl (fun _ => 0)) := (va_up_ne _ _ (by omega)).trans f_84
  have f_75 : (w_X_18 cs B g) 75 = .inr (5, [.ref (adr B 76), .ref (adr B 77), .ref (adr B 78), .ref (adr B 79), .ref (adr B 80), .ref (adr B 81), .ref (adr B 82), .ref (adr B 83), .ref (adr B 84), .null, .null, .null, .null, .null, .null, .null, .int 0, .null, .null, .null, .null, .null, .int 0, .int 0, .int 0, .int 0]) := va_up_self _ _ _
  refine lv_aload_n hx hb dX5_init_70 rfl (lv_at hl 0 rfl) ?_
  refine lv_iconst (v := 3) hx hb dX5_init_71 (by decide) ?_
  refine n_newi (n' := 3) hx hb (hts _ k_38) hK hP hS hBs hB (by decide) (by decide) (by decide) (Nat.le_of_ble_eq_true rfl) (Nat.le_of_ble_eq_true rfl) dX5_init_72 (fun H hP hS => ?_)
  have hP : va_P D vwCl (mw 86 (adr B) (w_X_19 cs B g)) H := hP
  have f_75 : (w_X_19 cs B g) 75 = .inr (5, [.ref (adr B 76), .ref (adr B 77), .ref (adr B 78), .ref (adr B 79), .ref (adr B 80), .ref (adr B 81), .ref (adr B 82), .ref (adr B 83), .ref (adr B 84), .null, .null, .null, .null, .null, .null, .null, .int 0, .null, .null, .null, .null, .null, .int 0, .int 0, .int 0, .int 0]) := (va_up_ne _ _ (by omega)).trans f_75
  have f_76 : (w_X_19 cs B g) 76 = .inl (cs 0, 3, .inl (fun _ => 0)) := (va_up_ne _ _ (by omega)).trans f_76
  have f_77 : (w_X_19 cs B g) 77 = .inl (cs 0, 48, .inl (fun _ => 0)) := (va_up_ne _ _ (by omega)).trans f_77
  have f_78 : (w_X_19 cs B g) 78 = .inl (cs 0, 48, .inl (fun _ => 0)) := (va_up_ne _ _ (by omega)).trans f_78
  have f_79 : (w_X_19 cs B g) 79 = .inl (cs 0, 48, .inl (fun _ => 0)) := (va_up_ne _ _ (by omega)).trans f_79
  have f_80 : (w_X_19 cs B g) 80 = .inl (cs 1, 3, .inl (fun _ => 0)) := (va_up_ne _ _ (by omega)).trans f_80
  have f_81 : (w_X_19 cs B g) 81 = .inl (cs 0, 3, .inl (fun _ => 0)) := (va_up_ne _ _ (by omega)).trans f_81
  have f_82 : (w_X_19 cs B g) 82 = .inl (cs 0, 3, .inl (fun _ => 0)) := (va_up_ne _ _ (by omega)).trans f_82
  have f_83 : (w_X_19 cs B g) 83 = .inl (cs 0, 3, .inl (fun _ => 0)) := (va_up_ne _ _ (by omega)).trans f_83
  have f_84 : (w_X_19 cs B g) 84 = .inl (cs 1, 3, .inl (fun _ => 0)) := (va_up_ne _ _ (by omega)).trans f_84
  have f_85 : (w_X_19 cs B g) 85 = .inl (cs 0, 3, .inl (fun _ => 0)) := va_up_self _ _ _
  refine W.widen (k := 10) (n := 165) (Nat.le_of_ble_eq_true rfl) (Nat.le_of_ble_eq_true rfl) ?_
  have hB : s.heap.size + 10 = B + 86 := by omega
  refine va_putF (D := D) (ci := 5) (v := .ref (adr B 85)) (ty := .array .int) (C := RX5) (T := TX5) (N := 26) hx hb hts inX5 tyX5 tyX5_ok nmX5 hown hK hP nD hS 75 (n_at (by omega) f_75) rfl 9 (by decide) (hts _ k_284) (fun _ h9 => h9) rfl hin rfl (by decide +kernel) rfl rfl (Nat.le_of_ble_eq_true rfl) dX5_init_74 (fun H locs hP _ hS => ?_)
  have hP := n_put (by omega) hP
  have hP : va_P D vwCl (mw 86 (adr B) (w_X_20 cs B g)) H := hP
  have f_76 : (w_X_20 cs B g) 76 = .inl (cs 0, 3, .inl (fun _ => 0)) := (va_up_ne _ _ (by omega)).trans f_76
  have f_77 : (w_X_20 cs B g) 77 = .inl (cs 0, 48, .inl (fun _ => 0)) := (va_up_ne _ _ (by omega)).trans f_77
  have f_78 : (w_X_20 cs B g) 78 = .inl (cs 0, 48, .inl (fun _ => 0)) := (va_up_ne _ _ (by omega)).trans f_78
  have f_79 : (w_X_20 cs B g) 79 = .inl (cs 0, 48, .inl (fun _ => 0)) := (va_up_ne _ _ (by omega)).trans f_79
  have f_80 : (w_X_20 cs B g) 80 = .inl (cs 1, 3, .inl (fun _ => 0)) := (va_up_ne _ _ (by omega)).trans f_80
  have f_81 : (w_X_20 cs B g) 81 = .inl (cs 0, 3, .inl (fun _ => 0)) := (va_up_ne _ _ (by omega)).trans f_81
  have f_82 : (w_X_20 cs B g) 82 = .inl (cs 0, 3, .inl (fun _ => 0)) := (va_up_ne _ _ (by omega)).trans f_82
  have f_83 : (w_X_20 cs B g) 83 = .inl (cs 0, 3, .inl (fun _ => 0)) := (va_up_ne _ _ (by omega)).trans f_83
  have f_84 : (w_X_20 cs B g) 84 = .inl (cs 1, 3, .inl (fun _ => 0)) := (va_up_ne _ _ (by omega)).trans f_84
  have f_85 : (w_X_20 cs B g) 85 = .inl (cs 0, 3, .inl (fun _ => 0)) := (va_up_ne _ _ (by omega)).trans f_85
  have f_75 : (w_X_20 cs B g) 75 = .inr (5, [.ref (adr B 76), .ref (adr B 77), .ref (adr B 78), .ref (adr B 79), .ref (adr B 80), .ref (adr B 81), .ref (adr B 82), .ref (adr B 83), .ref (adr B 84), .ref (adr B 85), .null, .null, .null, .null, .null, .null, .int 0, .null, .null, .null, .null, .null, .int 0, .int 0, .int 0, .int 0]) := va_up_self _ _ _
  refine lv_aload_n hx hb dX5_init_77 rfl (lv_at hl 0 rfl) ?_
  refine lv_iconst (v := 3) hx hb dX5_init_78 (by decide) ?_
  refine n_newi (n' := 3) hx hb (hts _ k_38) hK hP hS hBs hB (by decide) (by decide) (by decide) (Nat.le_of_ble_eq_true rfl) (Nat.le_of_ble_eq_true rfl) dX5_init_79 (fun H hP hS => ?_)
  have hP : va_P D vwCl (mw 87 (adr B) (w_X_21 cs B g)) H := hP
  have f_75 : (w_X_21 cs B g) 75 = .inr (5, [.ref (adr B 76), .ref (adr B 77), .ref (adr B 78), .ref (adr B 79), .ref (adr B 80), .ref (adr B 81), .ref (adr B 82), .ref (adr B 83), .ref (adr B 84), .ref (adr B 85), .null, .null, .null, .null, .null, .null, .int 0, .null, .null, .null, .null, .null, .int 0, .int 0, .int 0, .int 0]) := (va_up_ne _ _ (by omega)).trans f_75
  have f_76 : (w_X_21 cs B g) 76 = .inl (cs 0, 3, .inl (fun _ => 0)) := (va_up_ne _ _ (by omega)).trans f_76
  have f_77 : (w_X_21 cs B g) 77 = .inl (cs 0, 48, .inl (fun _ => 0)) := (va_up_ne _ _ (by omega)).trans f_77
  have f_78 : (w_X_21 cs B g) 78 = .inl (cs 0, 48, .inl (fun _ => 0)) := (va_up_ne _ _ (by omega)).trans f_78
  have f_79 : (w_X_21 cs B g) 79 = .inl (cs 0, 48, .inl (fun _ => 0)) := (va_up_ne _ _ (by omega)).trans f_79
  have f_80 : (w_X_21 cs B g) 80 = .inl (cs 1, 3, .inl (fun _ => 0)) := (va_up_ne _ _ (by omega)).trans f_80
  have f_81 : (w_X_21 cs B g) 81 = .inl (cs 0, 3, .inl (fun _ => 0)) := (va_up_ne _ _ (by omega)).trans f_81
  have f_82 : (w_X_21 cs B g) 82 = .inl (cs 0, 3, .inl (fun _ => 0)) := (va_up_ne _ _ (by omega)).trans f_82
  have f_83 : (w_X_21 cs B g) 83 = .inl (cs 0, 3, .inl (fun _ => 0)) := (va_up_ne _ _ (by omega)).trans f_83
  have f_84 : (w_X_21 cs B g) 84 = .inl (cs 1, 3, .inl (fun _ => 0)) := (va_up_ne _ _ (by omega)).trans f_84
  have f_85 : (w_X_21 cs B g) 85 = .inl (cs 0, 3, .inl (fun _ => 0)) := (va_up_ne _ _ (by omega)).trans f_85
  have f_86 : (w_X_21 cs B g) 86 = .inl (cs 0, 3, .inl (fun _ => 0)) := va_up_self _ _ _
  refine W.widen (k := 11) (n := 168) (Nat.le_of_ble_eq_true rfl) (Nat.le_of_ble_eq_true rfl) ?_
  have hB : s.heap.size + 11 = B + 87 := by omega
  refine va_putF (D := D) (ci := 5) (v := .ref (adr B 86)) (ty := .array .int) (C := RX5) (T := TX5) (N := 26) hx hb hts inX5 tyX5 tyX5_ok nmX5 hown hK hP nD hS 75 (n_at (by omega) f_75) rfl 10 (by decide) (hts _ k_285) (fun _ h9 => h9) rfl hin rfl (by decide +kernel) rfl rfl (Nat.le_of_ble_eq_true rfl) dX5_init_81 (fun H locs hP _ hS => ?_)
  have hP := n_put (by omega) hP
  have hP : va_P D vwCl (mw 87 (adr B) (w_X_22 cs B g)) H := hP
  have f_76 : (w_X_22 cs B g) 76 = .inl (cs 0, 3, .inl (fun _ => 0)) := (va_up_ne _ _ (by omega)).trans f_76
  have f_77 : (w_X_22 cs B g) 77 = .inl (cs 0, 48, .inl (fun _ => 0)) := (va_up_ne _ _ (by omega)).trans f_77
  have f_78 : (w_X_22 cs B g) 78 = .inl (cs 0, 48, .inl (fun _ => 0)) := (va_up_ne _ _ (by omega)).trans f_78
  have f_79 : (w_X_22 cs B g) 79 = .inl (cs 0, 48, .inl (fun _ => 0)) := (va_up_ne _ _ (by omega)).trans f_79
  have f_80 : (w_X_22 cs B g) 80 = .inl (cs 1, 3, .inl (fun _ => 0)) := (va_up_ne _ _ (by omega)).trans f_80
  have f_81 : (w_X_22 cs B g) 81 = .inl (cs 0, 3, .inl (fun _ => 0)) := (va_up_ne _ _ (by omega)).trans f_81
  have f_82 : (w_X_22 cs B g) 82 = .inl (cs 0, 3, .inl (fun _ => 0)) := (va_up_ne _ _ (by omega)).trans f_82
  have f_83 : (w_X_22 cs B g) 83 = .inl (cs 0, 3, .inl (fun _ => 0)) := (va_up_ne _ _ (by omega)).trans f_83
  have f_84 : (w_X_22 cs B g) 84 = .inl (cs 1, 3, .inl (fun _ => 0)) := (va_up_ne _ _ (by omega)).trans f_84
  have f_85 : (w_X_22 cs B g) 85 = .inl (cs 0, 3, .inl (fun _ => 0)) := (va_up_ne _ _ (by omega)).trans f_85
  have f_86 : (w_X_22 cs B g) 86 = .inl (cs 0, 3, .inl (fun _ => 0)) := (va_up_ne _ _ (by omega)).trans f_86
  have f_75 : (w_X_22 cs B g) 75 = .inr (5, [.ref (adr B 76), .ref (adr B 77), .ref (adr B 78), .ref (adr B 79), .ref (adr B 80), .ref (adr B 81), .ref (adr B 82), .ref (adr B 83), .ref (adr B 84), .ref (adr B 85), .ref (adr B 86), .null, .null, .null, .null, .null, .int 0, .null, .null, .null, .null, .null, .int 0, .int 0, .int 0, .int 0]) := va_up_self _ _ _
  refine lv_aload_n hx hb dX5_init_84 rfl (lv_at hl 0 rfl) ?_
  refine lv_sipush (v := 1536) hx hb dX5_init_85 (by decide) ?_
  refine n_newi (n' := 1536) hx hb (hts _ k_38) hK hP hS hBs hB (by decide) (by decide) (by decide) (Nat.le_of_ble_eq_true rfl) (Nat.le_of_ble_eq_true rfl) dX5_init_88 (fun H hP hS => ?_)
  have hP : va_P D vwCl (mw 88 (adr B) (w_X_23 cs B g)) H := hP
  have f_75 : (w_X_23 cs B g) 75 = .inr (5, [.ref (adr B 76), .ref (adr B 77), .ref (adr B 78), .ref (adr B 79), .ref (adr B 80), .ref (adr B 81), .ref (adr B 82), .ref (adr B 83), .ref (adr B 84), .ref (adr B 85), .ref (adr B 86), .null, .null, .null, .null, .null, .int 0, .null, .null, .null, .null, .null, .int 0, .int 0, .int 0, .int 0]) := (va_up_ne _ _ (by omega)).trans f_75
  have f_76 : (w_X_23 cs B g) 76 = .inl (cs 0, 3, .inl (fun _ => 0)) := (va_up_ne _ _ (by omega)).trans f_76
  have f_77 : (w_X_23 cs B g) 77 = .inl (cs 0, 48, .inl (fun _ => 0)) := (va_up_ne _ _ (by omega)).trans f_77
  have f_78 : (w_X_23 cs B g) 78 = .inl (cs 0, 48, .inl (fun _ => 0)) := (va_up_ne _ _ (by omega)).trans f_78
  have f_79 : (w_X_23 cs B g) 79 = .inl (cs 0, 48, .inl (fun _ => 0)) := (va_up_ne _ _ (by omega)).trans f_79
  have f_80 : (w_X_23 cs B g) 80 = .inl (cs 1, 3, .inl (fun _ => 0)) := (va_up_ne _ _ (by omega)).trans f_80
  have f_81 : (w_X_23 cs B g) 81 = .inl (cs 0, 3, .inl (fun _ => 0)) := (va_up_ne _ _ (by omega)).trans f_81
  have f_82 : (w_X_23 cs B g) 82 = .inl (cs 0, 3, .inl (fun _ => 0)) := (va_up_ne _ _ (by omega)).trans f_82
  have f_83 : (w_X_23 cs B g) 83 = .inl (cs 0, 3, .inl (fun _ => 0)) := (va_up_ne _ _ (by omega)).trans f_83
  have f_84 : (w_X_23 cs B g) 84 = .inl (cs 1, 3, .inl (fun _ => 0)) := (va_up_ne _ _ (by omega)).trans f_84
  have f_85 : (w_X_23 cs B g) 85 = .inl (cs 0, 3, .inl (fun _ => 0)) := (va_up_ne _ _ (by omega)).trans f_85
  have f_86 : (w_X_23 cs B g) 86 = .inl (cs 0, 3, .inl (fun _ => 0)) := (va_up_ne _ _ (by omega)).trans f_86
  have f_87 : (w_X_23 cs B g) 87 = .inl (cs 0, 1536, .inl (fun _ => 0)) := va_up_self _ _ _
  refine W.widen (k := 12) (n := 1704) (Nat.le_of_ble_eq_true rfl) (Nat.le_of_ble_eq_true rfl) ?_
  have hB : s.heap.size + 12 = B + 88 := by omega
  refine va_putF (D := D) (ci := 5) (v := .ref (adr B 87)) (ty := .array .int) (C := RX5) (T := TX5) (N := 26) hx hb hts inX5 tyX5 tyX5_ok nmX5 hown hK hP nD hS 75 (n_at (by omega) f_75) rfl 11 (by decide) (hts _ k_286) (fun _ h9 => h9) rfl hin rfl (by decide +kernel) rfl rfl (Nat.le_of_ble_eq_true rfl) dX5_init_90 (fun H locs hP _ hS => ?_)
  have hP := n_put (by omega) hP
  have hP : va_P D vwCl (mw 88 (adr B) (w_X_24 cs B g)) H := hP
  have f_76 : (w_X_24 cs B g) 76 = .inl (cs 0, 3, .inl (fun _ => 0)) := (va_up_ne _ _ (by omega)).trans f_76
  have f_77 : (w_X_24 cs B g) 77 = .inl (cs 0, 48, .inl (fun _ => 0)) := (va_up_ne _ _ (by omega)).trans f_77
  have f_78 : (w_X_24 cs B g) 78 = .inl (cs 0, 48, .inl (fun _ => 0)) := (va_up_ne _ _ (by omega)).trans f_78
  have f_79 : (w_X_24 cs B g) 79 = .inl (cs 0, 48, .inl (fun _ => 0)) := (va_up_ne _ _ (by omega)).trans f_79
  have f_80 : (w_X_24 cs B g) 80 = .inl (cs 1, 3, .inl (fun _ => 0)) := (va_up_ne _ _ (by omega)).trans f_80
  have f_81 : (w_X_24 cs B g) 81 = .inl (cs 0, 3, .inl (fun _ => 0)) := (va_up_ne _ _ (by omega)).trans f_81
  have f_82 : (w_X_24 cs B g) 82 = .inl (cs 0, 3, .inl (fun _ => 0)) := (va_up_ne _ _ (by omega)).trans f_82
  have f_83 : (w_X_24 cs B g) 83 = .inl (cs 0, 3, .inl (fun _ => 0)) := (va_up_ne _ _ (by omega)).trans f_83
  have f_84 : (w_X_24 cs B g) 84 = .inl (cs 1, 3, .inl (fun _ => 0)) := (va_up_ne _ _ (by omega)).trans f_84
  have f_85 : (w_X_24 cs B g) 85 = .inl (cs 0, 3, .inl (fun _ => 0)) := (va_up_ne _ _ (by omega)).trans f_85
  have f_86 : (w_X_24 cs B g) 86 = .inl (cs 0, 3, .inl (fun _ => 0)) := (va_up_ne _ _ (by omega)).trans f_86
  have f_87 : (w_X_24 cs B g) 87 = .inl (cs 0, 1536, .inl (fun _ => 0)) := (va_up_ne _ _ (by omega)).trans f_87
  have f_75 : (w_X_24 cs B g) 75 = .inr (5, [.ref (adr B 76), .ref (adr B 77), .ref (adr B 78), .ref (adr B 79), .ref (adr B 80), .ref (adr B 81), .ref (adr B 82), .ref (adr B 83), .ref (adr B 84), .ref (adr B 85), .ref (adr B 86), .ref (adr B 87), .null, .null, .null, .null, .int 0, .null, .null, .null, .null, .null, .int 0, .int 0, .int 0, .int 0]) := va_up_self _ _ _
  refine lv_aload_n hx hb dX5_init_93 rfl (lv_at hl 0 rfl) ?_
  refine lv_sipush (v := 1536) hx hb dX5_init_94 (by decide) ?_
  refine n_newi (n' := 1536) hx hb (hts _ k_38) hK hP hS hBs hB (by decide) (by decide) (by decide) (Nat.le_of_ble_eq_true rfl) (Nat.le_of_ble_eq_true rfl) dX5_init_97 (fun H hP hS => ?_)
  have hP : va_P D vwCl (mw 89 (adr B) (w_X_25 cs B g)) H := hP
  have f_75 : (w_X_25 cs B g) 75 = .inr (5, [.ref (adr B 76), .ref (adr B 77), .ref (adr B 78), .ref (adr B 79), .ref (adr B 80), .ref (adr B 81), .ref (adr B 82), .ref (adr B 83), .ref (adr B 84), .ref (adr B 85), .ref (adr B 86), .ref (adr B 87), .null, .null, .null, .null, .int 0, .null, .null, .null, .null, .null, .int 0, .int 0, .int 0, .int 0]) := (va_up_ne _ _ (by omega)).trans f_75
  have f_76 : (w_X_25 cs B g) 76 = .inl (cs 0, 3, .inl (fun _ => 0)) := (va_up_ne _ _ (by omega)).trans f_76
  have f_77 : (w_X_25 cs B g) 77 = .inl (cs 0, 48, .inl (fun _ => 0)) := (va_up_ne _ _ (by omega)).trans f_77
  have f_78 : (w_X_25 cs B g) 78 = .inl (cs 0, 48, .inl (fun _ => 0)) := (va_up_ne _ _ (by omega)).trans f_78
  have f_79 : (w_X_25 cs B g) 79 = .inl (cs 0, 48, .inl (fun _ => 0)) := (va_up_ne _ _ (by omega)).trans f_79
  have f_80 : (w_X_25 cs B g) 80 = .inl (cs 1, 3, .inl (fun _ => 0)) := (va_up_ne _ _ (by omega)).trans f_80
  have f_81 : (w_X_25 cs B g) 81 = .inl (cs 0, 3, .inl (fun _ => 0)) := (va_up_ne _ _ (by omega)).trans f_81
  have f_82 : (w_X_25 cs B g) 82 = .inl (cs 0, 3, .inl (fun _ => 0)) := (va_up_ne _ _ (by omega)).trans f_82
  have f_83 : (w_X_25 cs B g) 83 = .inl (cs 0, 3, .inl (fun _ => 0)) := (va_up_ne _ _ (by omega)).trans f_83
  have f_84 : (w_X_25 cs B g) 84 = .inl (cs 1, 3, .inl (fun _ => 0)) := (va_up_ne _ _ (by omega)).trans f_84
  have f_85 : (w_X_25 cs B g) 85 = .inl (cs 0, 3, .inl (fun _ => 0)) := (va_up_ne _ _ (by omega)).trans f_85
  have f_86 : (w_X_25 cs B g) 86 = .inl (cs 0, 3, .inl (fun _ => 0)) := (va_up_ne _ _ (by omega)).trans f_86
  have f_87 : (w_X_25 cs B g) 87 = .inl (cs 0, 1536, .inl (fun _ => 0)) := (va_up_ne _ _ (by omega)).trans f_87
  have f_88 : (w_X_25 cs B g) 88 = .inl (cs 0, 1536, .inl (fun _ => 0)) := va_up_self _ _ _
  refine W.widen (k := 13) (n := 3240) (Nat.le_of_ble_eq_true rfl) (Nat.le_of_ble_eq_true rfl) ?_
  have hB : s.heap.size + 13 = B + 89 := by omega
  refine va_putF (D := D) (ci := 5) (v := .ref (adr B 88)) (ty := .array .int) (C := RX5) (T := TX5) (N := 26) hx hb hts inX5 tyX5 tyX5_ok nmX5 hown hK hP nD hS 75 (n_at (by omega) f_75) rfl 12 (by decide) (hts _ k_287) (fun _ h9 => h9) rfl hin rfl (by decide +kernel) rfl rfl (Nat.le_of_ble_eq_true rfl) dX5_init_99 (fun H locs hP _ hS => ?_)
  have hP := n_put (by omega) hP
  have hP : va_P D vwCl (mw 89 (adr B) (w_X_26 cs B g)) H := hP
  have f_76 : (w_X_26 cs B g) 76 = .inl (cs 0, 3, .inl (fun _ => 0)) := (va_up_ne _ _ (by omega)).trans f_76
  have f_77 : (w_X_26 cs B g) 77 = .inl (cs 0, 48, .inl (fun _ => 0)) := (va_up_ne _ _ (by omega)).trans f_77
  have f_78 : (w_X_26 cs B g) 78 = .inl (cs 0, 48, .inl (fun _ => 0)) := (va_up_ne _ _ (by omega)).trans f_78
  have f_79 : (w_X_26 cs B g) 79 = .inl (cs 0, 48, .inl (fun _ => 0)) := (va_up_ne _ _ (by omega)).trans f_79
  have f_80 : (w_X_26 cs B g) 80 = .inl (cs 1, 3, .inl (fun _ => 0)) := (va_up_ne _ _ (by omega)).trans f_80
  have f_81 : (w_X_26 cs B g) 81 = .inl (cs 0, 3, .inl (fun _ => 0)) := (va_up_ne _ _ (by omega)).trans f_81
  have f_82 : (w_X_26 cs B g) 82 = .inl (cs 0, 3, .inl (fun _ => 0)) := (va_up_ne _ _ (by omega)).trans f_82
  have f_83 : (w_X_26 cs B g) 83 = .inl (cs 0, 3, .inl (fun _ => 0)) := (va_up_ne _ _ (by omega)).trans f_83
  have f_84 : (w_X_26 cs B g) 84 = .inl (cs 1, 3, .inl (fun _ => 0)) := (va_up_ne _ _ (by omega)).trans f_84
  have f_85 : (w_X_26 cs B g) 85 = .inl (cs 0, 3, .inl (fun _ => 0)) := (va_up_ne _ _ (by omega)).trans f_85
  have f_86 : (w_X_26 cs B g) 86 = .inl (cs 0, 3, .inl (fun _ => 0)) := (va_up_ne _ _ (by omega)).trans f_86
  have f_87 : (w_X_26 cs B g) 87 = .inl (cs 0, 1536, .inl (fun _ => 0)) := (va_up_ne _ _ (by omega)).trans f_87
  have f_88 : (w_X_26 cs B g) 88 = .inl (cs 0, 1536, .inl (fun _ => 0)) := (va_up_ne _ _ (by omega)).trans f_88
  have f_75 : (w_X_26 cs B g) 75 = .inr (5, [.ref (adr B 76), .ref (adr B 77), .ref (adr B 78), .ref (adr B 79), .ref (adr B 80), .ref (adr B 81), .ref (adr B 82), .ref (adr B 83), .ref (adr B 84), .ref (adr B 85), .ref (adr B 86), .ref (adr B 87), .ref (adr B 88), .null, .null, .null, .int 0, .null, .null, .null, .null, .null, .int 0, .int 0, .int 0, .int 0]) := va_up_self _ _ _
  refine lv_aload_n hx hb dX5_init_102 rfl (lv_at hl 0 rfl) ?_
  refine lv_bipush (v := 9) hx hb dX5_init_103 (by decide) ?_
  refine n_newi (n' := 9) hx hb (hts _ k_38) hK hP hS hBs hB (by decide) (by decide) (by decide) (Nat.le_of_ble_eq_true rfl) (Nat.le_of_ble_eq_true rfl) dX5_init_105 (fun H hP hS => ?_)
  have hP : va_P D vwCl (mw 90 (adr B) (w_X_27 cs B g)) H := hP
  have f_75 : (w_X_27 cs B g) 75 = .inr (5, [.ref (adr B 76), .ref (adr B 77), .ref (adr B 78), .ref (adr B 79), .ref (adr B 80), .ref (adr B 81), .ref (adr B 82), .ref (adr B 83), .ref (adr B 84), .ref (adr B 85), .ref (adr B 86), .ref (adr B 87), .ref (adr B 88), .null, .null, .null, .int 0, .null, .null, .null, .null, .null, .int 0, .int 0, .int 0, .int 0]) := (va_up_ne _ _ (by omega)).trans f_75
  have f_76 : (w_X_27 cs B g) 76 = .inl (cs 0, 3, .inl (fun _ => 0)) := (va_up_ne _ _ (by omega)).trans f_76
  have f_77 : (w_X_27 cs B g) 77 = .inl (cs 0, 48, .inl (fun _ => 0)) := (va_up_ne _ _ (by omega)).trans f_77
  have f_78 : (w_X_27 cs B g) 78 = .inl (cs 0, 48, .inl (fun _ => 0)) := (va_up_ne _ _ (by omega)).trans f_78
  have f_79 : (w_X_27 cs B g) 79 = .inl (cs 0, 48, .inl (fun _ => 0)) := (va_up_ne _ _ (by omega)).trans f_79
  have f_80 : (w_X_27 cs B g) 80 = .inl (cs 1, 3, .inl (fun _ => 0)) := (va_up_ne _ _ (by omega)).trans f_80
  have f_81 : (w_X_27 cs B g) 81 = .inl (cs 0, 3, .inl (fun _ => 0)) := (va_up_ne _ _ (by omega)).trans f_81
  have f_82 : (w_X_27 cs B g) 82 = .inl (cs 0, 3, .inl (fun _ => 0)) := (va_up_ne _ _ (by omega)).trans f_82
  have f_83 : (w_X_27 cs B g) 83 = .inl (cs 0, 3, .inl (fun _ => 0)) := (va_up_ne _ _ (by omega)).trans f_83
  have f_84 : (w_X_27 cs B g) 84 = .inl (cs 1, 3, .inl (fun _ => 0)) := (va_up_ne _ _ (by omega)).trans f_84
  have f_85 : (w_X_27 cs B g) 85 = .inl (cs 0, 3, .inl (fun _ => 0)) := (va_up_ne _ _ (by omega)).trans f_85
  have f_86 : (w_X_27 cs B g) 86 = .inl (cs 0, 3, .inl (fun _ => 0)) := (va_up_ne _ _ (by omega)).trans f_86
  have f_87 : (w_X_27 cs B g) 87 = .inl (cs 0, 1536, .inl (fun _ => 0)) := (va_up_ne _ _ (by omega)).trans f_87
  have f_88 : (w_X_27 cs B g) 88 = .inl (cs 0, 1536, .inl (fun _ => 0)) := (va_up_ne _ _ (by omega)).trans f_88
  have f_89 : (w_X_27 cs B g) 89 = .inl (cs 0, 9, .inl (fun _ => 0)) := va_up_self _ _ _
  refine W.widen (k := 14) (n := 3249) (Nat.le_of_ble_eq_true rfl) (Nat.le_of_ble_eq_true rfl) ?_
  have hB : s.heap.size + 14 = B + 90 := by omega
  refine va_putF (D := D) (ci := 5) (v := .ref (adr B 89)) (ty := .array .int) (C := RX5) (T := TX5) (N := 26) hx hb hts inX5 tyX5 tyX5_ok nmX5 hown hK hP nD hS 75 (n_at (by omega) f_75) rfl 13 (by decide) (hts _ k_288) (fun _ h9 => h9) rfl hin rfl (by decide +kernel) rfl rfl (Nat.le_of_ble_eq_true rfl) dX5_init_107 (fun H locs hP _ hS => ?_)
  have hP := n_put (by omega) hP
  have hP : va_P D vwCl (mw 90 (adr B) (w_X_28 cs B g)) H := hP
  have f_76 : (w_X_28 cs B g) 76 = .inl (cs 0, 3, .inl (fun _ => 0)) := (va_up_ne _ _ (by omega)).trans f_76
  have f_77 : (w_X_28 cs B g) 77 = .inl (cs 0, 48, .inl (fun _ => 0)) := (va_up_ne _ _ (by omega)).trans f_77
  have f_78 : (w_X_28 cs B g) 78 = .inl (cs 0, 48, .inl (fun _ => 0)) := (va_up_ne _ _ (by omega)).trans f_78
  have f_79 : (w_X_28 cs B g) 79 = .inl (cs 0, 48, .inl (fun _ => 0)) := (va_up_ne _ _ (by omega)).trans f_79
  have f_80 : (w_X_28 cs B g) 80 = .inl (cs 1, 3, .inl (fun _ => 0)) := (va_up_ne _ _ (by omega)).trans f_80
  have f_81 : (w_X_28 cs B g) 81 = .inl (cs 0, 3, .inl (fun _ => 0)) := (va_up_ne _ _ (by omega)).trans f_81
  have f_82 : (w_X_28 cs B g) 82 = .inl (cs 0, 3, .inl (fun _ => 0)) := (va_up_ne _ _ (by omega)).trans f_82
  have f_83 : (w_X_28 cs B g) 83 = .inl (cs 0, 3, .inl (fun _ => 0)) := (va_up_ne _ _ (by omega)).trans f_83
  have f_84 : (w_X_28 cs B g) 84 = .inl (cs 1, 3, .inl (fun _ => 0)) := (va_up_ne _ _ (by omega)).trans f_84
  have f_85 : (w_X_28 cs B g) 85 = .inl (cs 0, 3, .inl (fun _ => 0)) := (va_up_ne _ _ (by omega)).trans f_85
  have f_86 : (w_X_28 cs B g) 86 = .inl (cs 0, 3, .inl (fun _ => 0)) := (va_up_ne _ _ (by omega)).trans f_86
  have f_87 : (w_X_28 cs B g) 87 = .inl (cs 0, 1536, .inl (fun _ => 0)) := (va_up_ne _ _ (by omega)).trans f_87
  have f_88 : (w_X_28 cs B g) 88 = .inl (cs 0, 1536, .inl (fun _ => 0)) := (va_up_ne _ _ (by omega)).trans f_88
  have f_89 : (w_X_28 cs B g) 89 = .inl (cs 0, 9, .inl (fun _ => 0)) := (va_up_ne _ _ (by omega)).trans f_89
  have f_75 : (w_X_28 cs B g) 75 = .inr (5, [.ref (adr B 76), .ref (adr B 77), .ref (adr B 78), .ref (adr B 79), .ref (adr B 80), .ref (adr B 81), .ref (adr B 82), .ref (adr B 83), .ref (adr B 84), .ref (adr B 85), .ref (adr B 86), .ref (adr B 87), .ref (adr B 88), .ref (adr B 89), .null, .null, .int 0, .null, .null, .null, .null, .null, .int 0, .int 0, .int 0, .int 0]) := va_up_self _ _ _
  refine lv_aload_n hx hb dX5_init_110 rfl (lv_at hl 0 rfl) ?_
  refine lv_bipush (v := 9) hx hb dX5_init_111 (by decide) ?_
  refine n_newi (n' := 9) hx hb (hts _ k_38) hK hP hS hBs hB (by decide) (by decide) (by decide) (Nat.le_of_ble_eq_true rfl) (Nat.le_of_ble_eq_true rfl) dX5_init_113 (fun H hP hS => ?_)
  have hP : va_P D vwCl (mw 91 (adr B) (w_X_29 cs B g)) H := hP
  have f_75 : (w_X_29 cs B g) 75 = .inr (5, [.ref (adr B 76), .ref (adr B 77), .ref (adr B 78), .ref (adr B 79), .ref (adr B 80), .ref (adr B 81), .ref (adr B 82), .ref (adr B 83), .ref (adr B 84), .ref (adr B 85), .ref (adr B 86), .ref (adr B 87), .ref (adr B 88), .ref (adr B 89), .null, .null, .int 0, .null, .null, .null, .null, .null, .int 0, .int 0, .int 0, .int 0]) := (va_up_ne _ _ (by omega)).trans f_75
  have f_76 : (w_X_29 cs B g) 76 = .inl (cs 0, 3, .inl (fun _ => 0)) := (va_up_ne _ _ (by omega)).trans f_76
  have f_77 : (w_X_29 cs B g) 77 = .inl (cs 0, 48, .inl (fun _ => 0)) := (va_up_ne _ _ (by omega)).trans f_77
  have f_78 : (w_X_29 cs B g) 78 = .inl (cs 0, 48, .inl (fun _ => 0)) := (va_up_ne _ _ (by omega)).trans f_78
  have f_79 : (w_X_29 cs B g) 79 = .inl (cs 0, 48, .inl (fun _ => 0)) := (va_up_ne _ _ (by omega)).trans f_79
  have f_80 : (w_X_29 cs B g) 80 = .inl (cs 1, 3, .inl (fun _ => 0)) := (va_up_ne _ _ (by omega)).trans f_80
  have f_81 : (w_X_29 cs B g) 81 = .inl (cs 0, 3, .inl (fun _ => 0)) := (va_up_ne _ _ (by omega)).trans f_81
  have f_82 : (w_X_29 cs B g) 82 = .inl (cs 0, 3, .inl (fun _ => 0)) := (va_up_ne _ _ (by omega)).trans f_82
  have f_83 : (w_X_29 cs B g) 83 = .inl (cs 0, 3, .inl (fun _ => 0)) := (va_up_ne _ _ (by omega)).trans f_83
  have f_84 : (w_X_29 cs B g) 84 = .inl (cs 1, 3, .inl (fun _ => 0)) := (va_up_ne _ _ (by omega)).trans f_84
  have f_85 : (w_X_29 cs B g) 85 = .inl (cs 0, 3, .inl (fun _ => 0)) := (va_up_ne _ _ (by omega)).trans f_85
  have f_86 : (w_X_29 cs B g) 86 = .inl (cs 0, 3, .inl (fun _ => 0)) := (va_up_ne _ _ (by omega)).trans f_86
  have f_87 : (w_X_29 cs B g) 87 = .inl (cs 0, 1536, .inl (fun _ => 0)) := (va_up_ne _ _ (by omega)).trans f_87
  have f_88 : (w_X_29 cs B g) 88 = .inl (cs 0, 1536, .inl (fun _ => 0)) := (va_up_ne _ _ (by omega)).trans f_88
  have f_89 : (w_X_29 cs B g) 89 = .inl (cs 0, 9, .inl (fun _ => 0)) := (va_up_ne _ _ (by omega)).trans f_89
  have f_90 : (w_X_29 cs B g) 90 = .inl (cs 0, 9, .inl (fun _ => 0)) := va_up_self _ _ _
  refine W.widen (k := 15) (n := 3258) (Nat.le_of_ble_eq_true rfl) (Nat.le_of_ble_eq_true rfl) ?_
  have hB : s.heap.size + 15 = B + 91 := by omega
  refine va_putF (D := D) (ci := 5) (v := .ref (adr B 90)) (ty := .array .int) (C := RX5) (T := TX5) (N := 26) hx hb hts inX5 tyX5 tyX5_ok nmX5 hown hK hP nD hS 75 (n_at (by omega) f_75) rfl 14 (by decide) (hts _ k_289) (fun _ h9 => h9) rfl hin rfl (by decide +kernel) rfl rfl (Nat.le_of_ble_eq_true rfl) dX5_init_115 (fun H locs hP _ hS => ?_)
  have hP := n_put (by omega) hP
  have hP : va_P D vwCl (mw 91 (adr B) (w_X_30 cs B g)) H := hP
  have f_76 : (w_X_30 cs B g) 76 = .inl (cs 0, 3, .inl (fun _ => 0)) := (va_up_ne _ _ (by omega)).trans f_76
  have f_77 : (w_X_30 cs B g) 77 = .inl (cs 0, 48, .inl (fun _ => 0)) := (va_up_ne _ _ (by omega)).trans f_77
  have f_78 : (w_X_30 cs B g) 78 = .inl (cs 0, 48, .inl (fun _ => 0)) := (va_up_ne _ _ (by omega)).trans f_78
  have f_79 : (w_X_30 cs B g) 79 = .inl (cs 0, 48, .inl (fun _ => 0)) := (va_up_ne _ _ (by omega)).trans f_79
  have f_80 : (w_X_30 cs B g) 80 = .inl (cs 1, 3, .inl (fun _ => 0)) := (va_up_ne _ _ (by omega)).trans f_80
  have f_81 : (w_X_30 cs B g) 81 = .inl (cs 0, 3, .inl (fun _ => 0)) := (va_up_ne _ _ (by omega)).trans f_81
  have f_82 : (w_X_30 cs B g) 82 = .inl (cs 0, 3, .inl (fun _ => 0)) := (va_up_ne _ _ (by omega)).trans f_82
  have f_83 : (w_X_30 cs B g) 83 = .inl (cs 0, 3, .inl (fun _ => 0)) := (va_up_ne _ _ (by omega)).trans f_83
  have f_84 : (w_X_30 cs B g) 84 = .inl (cs 1, 3, .inl (fun _ => 0)) := (va_up_ne _ _ (by omega)).trans f_84
  have f_85 : (w_X_30 cs B g) 85 = .inl (cs 0, 3, .inl (fun _ => 0)) := (va_up_ne _ _ (by omega)).trans f_85
  have f_86 : (w_X_30 cs B g) 86 = .inl (cs 0, 3, .inl (fun _ => 0)) := (va_up_ne _ _ (by omega)).trans f_86
  have f_87 : (w_X_30 cs B g) 87 = .inl (cs 0, 1536, .inl (fun _ => 0)) := (va_up_ne _ _ (by omega)).trans f_87
  have f_88 : (w_X_30 cs B g) 88 = .inl (cs 0, 1536, .inl (fun _ => 0)) := (va_up_ne _ _ (by omega)).trans f_88
  have f_89 : (w_X_30 cs B g) 89 = .inl (cs 0, 9, .inl (fun _ => 0)) := (va_up_ne _ _ (by omega)).trans f_89
  have f_90 : (w_X_30 cs B g) 90 = .inl (cs 0, 9, .inl (fun _ => 0)) := (va_up_ne _ _ (by omega)).trans f_90
  have f_75 : (w_X_30 cs B g) 75 = .inr (5, [.ref (adr B 76), .ref (adr B 77), .ref (adr B 78), .ref (adr B 79), .ref (adr B 80), .ref (adr B 81), .ref (adr B 82), .ref (adr B 83), .ref (adr B 84), .ref (adr B 85), .ref (adr B 86), .ref (adr B 87), .ref (adr B 88), .ref (adr B 89), .ref (adr B 90), .null, .int 0, .null, .null, .null, .null, .null, .int 0, .int 0, .int 0, .int 0]) := va_up_self _ _ _
  refine lv_aload_n hx hb dX5_init_118 rfl (lv_at hl 0 rfl) ?_
  refine lv_bipush (v := 72) hx hb dX5_init_119 (by decide) ?_
  refine n_newi (n' := 72) hx hb (hts _ k_38) hK hP hS hBs hB (by decide) (by decide) (by decide) (Nat.le_of_ble_eq_true rfl) (Nat.le_of_ble_eq_true rfl) dX5_init_121 (fun H hP hS => ?_)
  have hP : va_P D vwCl (mw 92 (adr B) (w_X_31 cs B g)) H := hP
  have f_75 : (w_X_31 cs B g) 75 = .inr (5, [.ref (adr B 76), .ref (adr B 77), .ref (adr B 78), .ref (adr B 79), .ref (adr B 80), .ref (adr B 81), .ref (adr B 82), .ref (adr B 83), .ref (adr B 84), .ref (adr B 85), .ref (adr B 86), .ref (adr B 87), .ref (adr B 88), .ref (adr B 89), .ref (adr B 90), .null, .int 0, .null, .null, .null, .null, .null, .int 0, .int 0, .int 0, .int 0]) := (va_up_ne _ _ (by omega)).trans f_75
  have f_76 : (w_X_31 cs B g) 76 = .inl (cs 0, 3, .inl (fun _ => 0)) := (va_up_ne _ _ (by omega)).trans f_76
  have f_77 : (w_X_31 cs B g) 77 = .inl (cs 0, 48, .inl (fun _ => 0)) := (va_up_ne _ _ (by omega)).trans f_77
  have f_78 : (w_X_31 cs B g) 78 = .inl (cs 0, 48, .inl (fun _ => 0)) := (va_up_ne _ _ (by omega)).trans f_78
  have f_79 : (w_X_31 cs B g) 79 = .inl (cs 0, 48, .inl (fun _ => 0)) := (va_up_ne _ _ (by omega)).trans f_79
  have f_80 : (w_X_31 cs B g) 80 = .inl (cs 1, 3, .inl (fun _ => 0)) := (va_up_ne _ _ (by omega)).trans f_80
  have f_81 : (w_X_31 cs B g) 81 = .inl (cs 0, 3, .inl (fun _ => 0)) := (va_up_ne _ _ (by omega)).trans f_81
  have f_82 : (w_X_31 cs B g) 82 = .inl (cs 0, 3, .inl (fun _ => 0)) := (va_up_ne _ _ (by omega)).trans f_82
  have f_83 : (w_X_31 cs B g) 83 = .inl (cs 0, 3, .inl (fun _ => 0)) := (va_up_ne _ _ (by omega)).trans f_83
  have f_84 : (w_X_31 cs B g) 84 = .inl (cs 1, 3, .inl (fun _ => 0)) := (va_up_ne _ _ (by omega)).trans f_84
  have f_85 : (w_X_31 cs B g) 85 = .inl (cs 0, 3, .inl (fun _ => 0)) := (va_up_ne _ _ (by omega)).trans f_85
  have f_86 : (w_X_31 cs B g) 86 = .inl (cs 0, 3, .inl (fun _ => 0)) := (va_up_ne _ _ (by omega)).trans f_86
  have f_87 : (w_X_31 cs B g) 87 = .inl (cs 0, 1536, .inl (fun _ => 0)) := (va_up_ne _ _ (by omega)).trans f_87
  have f_88 : (w_X_31 cs B g) 88 = .inl (cs 0, 1536, .inl (fun _ => 0)) := (va_up_ne _ _ (by omega)).trans f_88
  have f_89 : (w_X_31 cs B g) 89 = .inl (cs 0, 9, .inl (fun _ => 0)) := (va_up_ne _ _ (by omega)).trans f_89
  have f_90 : (w_X_31 cs B g) 90 = .inl (cs 0, 9, .inl (fun _ => 0)) := (va_up_ne _ _ (by omega)).trans f_90
  have f_91 : (w_X_31 cs B g) 91 = .inl (cs 0, 72, .inl (fun _ => 0)) := va_up_self _ _ _
  refine W.widen (k := 16) (n := 3330) (Nat.le_of_ble_eq_true rfl) (Nat.le_of_ble_eq_true rfl) ?_
  have hB : s.heap.size + 16 = B + 92 := by omega
  refine va_putF (D := D) (ci := 5) (v := .ref (adr B 91)) (ty := .array .int) (C := RX5) (T := TX5) (N := 26) hx hb hts inX5 tyX5 tyX5_ok nmX5 hown hK hP nD hS 75 (n_at (by omega) f_75) rfl 15 (by decide) (hts _ k_290) (fun _ h9 => h9) rfl hin rfl (by decide +kernel) rfl rfl (Nat.le_of_ble_eq_true rfl) dX5_init_123 (fun H locs hP _ hS => ?_)
  have hP := n_put (by omega) hP
  have hP : va_P D vwCl (mw 92 (adr B) (w_X_32 cs B g)) H := hP
  have f_76 : (w_X_32 cs B g) 76 = .inl (cs 0, 3, .inl (fun _ => 0)) := (va_up_ne _ _ (by omega)).trans f_76
  have f_77 : (w_X_32 cs B g) 77 = .inl (cs 0, 48, .inl (fun _ => 0)) := (va_up_ne _ _ (by omega)).trans f_77
  have f_78 : (w_X_32 cs B g) 78 = .inl (cs 0, 48, .inl (fun _ => 0)) := (va_up_ne _ _ (by omega)).trans f_78
  have f_79 : (w_X_32 cs B g) 79 = .inl (cs 0, 48, .inl (fun _ => 0)) := (va_up_ne _ _ (by omega)).trans f_79
  have f_80 : (w_X_32 cs B g) 80 = .inl (cs 1, 3, .inl (fun _ => 0)) := (va_up_ne _ _ (by omega)).trans f_80
  have f_81 : (w_X_32 cs B g) 81 = .inl (cs 0, 3, .inl (fun _ => 0)) := (va_up_ne _ _ (by omega)).trans f_81
  have f_82 : (w_X_32 cs B g) 82 = .inl (cs 0, 3, .inl (fun _ => 0)) := (va_up_ne _ _ (by omega)).trans f_82
  have f_83 : (w_X_32 cs B g) 83 = .inl (cs 0, 3, .inl (fun _ => 0)) := (va_up_ne _ _ (by omega)).trans f_83
  have f_84 : (w_X_32 cs B g) 84 = .inl (cs 1, 3, .inl (fun _ => 0)) := (va_up_ne _ _ (by omega)).trans f_84
  have f_85 : (w_X_32 cs B g) 85 = .inl (cs 0, 3, .inl (fun _ => 0)) := (va_up_ne _ _ (by omega)).trans f_85
  have f_86 : (w_X_32 cs B g) 86 = .inl (cs 0, 3, .inl (fun _ => 0)) := (va_up_ne _ _ (by omega)).trans f_86
  have f_87 : (w_X_32 cs B g) 87 = .inl (cs 0, 1536, .inl (fun _ => 0)) := (va_up_ne _ _ (by omega)).trans f_87
  have f_88 : (w_X_32 cs B g) 88 = .inl (cs 0, 1536, .inl (fun _ => 0)) := (va_up_ne _ _ (by omega)).trans f_88
  have f_89 : (w_X_32 cs B g) 89 = .inl (cs 0, 9, .inl (fun _ => 0)) := (va_up_ne _ _ (by omega)).trans f_89
  have f_90 : (w_X_32 cs B g) 90 = .inl (cs 0, 9, .inl (fun _ => 0)) := (va_up_ne _ _ (by omega)).trans f_90
  have f_91 : (w_X_32 cs B g) 91 = .inl (cs 0, 72, .inl (fun _ => 0)) := (va_up_ne _ _ (by omega)).trans f_91
  have f_75 : (w_X_32 cs B g) 75 = .inr (5, [.ref (adr B 76), .ref (adr B 77), .ref (adr B 78), .ref (adr B 79), .ref (adr B 80), .ref (adr B 81), .ref (adr B 82), .ref (adr B 83), .ref (adr B 84), .ref (adr B 85), .ref (adr B 86), .ref (adr B 87), .ref (adr B 88), .ref (adr B 89), .ref (adr B 90), .ref (adr B 91), .int 0, .null, .null, .null, .null, .null, .int 0, .int 0, .int 0, .int 0]) := va_up_self _ _ _
  refine lv_aload_n hx hb dX5_init_126 rfl (lv_at hl 0 rfl) ?_
  refine lv_bipush (v := 60) hx hb dX5_init_127 (by decide) ?_
  refine n_newi (n' := 60) hx hb (hts _ k_38) hK hP hS hBs hB (by decide) (by decide) (by decide) (Nat.le_of_ble_eq_true rfl) (Nat.le_of_ble_eq_true rfl) dX5_init_129 (fun H hP hS => ?_)
  have hP : va_P D vwCl (mw 93 (adr B) (w_X_33 cs B g)) H := hP
  have f_75 : (w_X_33 cs B g) 75 = .inr (5, [.ref (adr B 76), .ref (adr B 77), .ref (adr B 78), .ref (adr B 79), .ref (adr B 80), .ref (adr B 81), .ref (adr B 82), .ref (adr B 83), .ref (adr B 84), .ref (adr B 85), .ref (adr B 86), .ref (adr B 87), .ref (adr B 88), .ref (adr B 89), .ref (adr B 90), .ref (adr B 91), .int 0, .null, .null, .null, .null, .null, .int 0, .int 0, .int 0, .int 0]) := (va_up_ne _ _ (by omega)).trans f_75
  have f_76 : (w_X_33 cs B g) 76 = .inl (cs 0, 3, .inl (fun _ => 0)) := (va_up_ne _ _ (by omega)).trans f_76
  have f_77 : (w_X_33 cs B g) 77 = .inl (cs 0, 48, .inl (fun _ => 0)) := (va_up_ne _ _ (by omega)).trans f_77
  have f_78 : (w_X_33 cs B g) 78 = .inl (cs 0, 48, .inl (fun _ => 0)) := (va_up_ne _ _ (by omega)).trans f_78
  have f_79 : (w_X_33 cs B g) 79 = .inl (cs 0, 48, .inl (fun _ => 0)) := (va_up_ne _ _ (by omega)).trans f_79
  have f_80 : (w_X_33 cs B g) 80 = .inl (cs 1, 3, .inl (fun _ => 0)) := (va_up_ne _ _ (by omega)).trans f_80
  have f_81 : (w_X_33 cs B g) 81 = .inl (cs 0, 3, .inl (fun _ => 0)) := (va_up_ne _ _ (by omega)).trans f_81
  have f_82 : (w_X_33 cs B g) 82 = .inl (cs 0, 3, .inl (fun _ => 0)) := (va_up_ne _ _ (by omega)).trans f_82
  have f_83 : (w_X_33 cs B g) 83 = .inl (cs 0, 3, .inl (fun _ => 0)) := (va_up_ne _ _ (by omega)).trans f_83
  have f_84 : (w_X_33 cs B g) 84 = .inl (cs 1, 3, .inl (fun _ => 0)) := (va_up_ne _ _ (by omega)).trans f_84
  have f_85 : (w_X_33 cs B g) 85 = .inl (cs 0, 3, .inl (fun _ => 0)) := (va_up_ne _ _ (by omega)).trans f_85
  have f_86 : (w_X_33 cs B g) 86 = .inl (cs 0, 3, .inl (fun _ => 0)) := (va_up_ne _ _ (by omega)).trans f_86
  have f_87 : (w_X_33 cs B g) 87 = .inl (cs 0, 1536, .inl (fun _ => 0)) := (va_up_ne _ _ (by omega)).trans f_87
  have f_88 : (w_X_33 cs B g) 88 = .inl (cs 0, 1536, .inl (fun _ => 0)) := (va_up_ne _ _ (by omega)).trans f_88
  have f_89 : (w_X_33 cs B g) 89 = .inl (cs 0, 9, .inl (fun _ => 0)) := (va_up_ne _ _ (by omega)).trans f_89
  have f_90 : (w_X_33 cs B g) 90 = .inl (cs 0, 9, .inl (fun _ => 0)) := (va_up_ne _ _ (by omega)).trans f_90
  have f_91 : (w_X_33 cs B g) 91 = .inl (cs 0, 72, .inl (fun _ => 0)) := (va_up_ne _ _ (by omega)).trans f_91
  have f_92 : (w_X_33 cs B g) 92 = .inl (cs 0, 60, .inl (fun _ => 0)) := va_up_self _ _ _
  refine W.widen (k := 17) (n := 3390) (Nat.le_of_ble_eq_true rfl) (Nat.le_of_ble_eq_true rfl) ?_
  have hB : s.heap.size + 17 = B + 93 := by omega
  refine va_putF (D := D) (ci := 5) (v := .ref (adr B 92)) (ty := .array .int) (C := RX5) (T := TX5) (N := 26) hx hb hts inX5 tyX5 tyX5_ok nmX5 hown hK hP nD hS 75 (n_at (by omega) f_75) rfl 17 (by decide) (hts _ k_292) (fun _ h9 => h9) rfl hin rfl (by decide +kernel) rfl rfl (Nat.le_of_ble_eq_true rfl) dX5_init_131 (fun H locs hP _ hS => ?_)
  have hP := n_put (by omega) hP
  have hP : va_P D vwCl (mw 93 (adr B) (w_X_34 cs B g)) H := hP
  have f_76 : (w_X_34 cs B g) 76 = .inl (cs 0, 3, .inl (fun _ => 0)) := (va_up_ne _ _ (by omega)).trans f_76
  have f_77 : (w_X_34 cs B g) 77 = .inl (cs 0, 48, .inl (fun _ => 0)) := (va_up_ne _ _ (by omega)).trans f_77
  have f_78 : (w_X_34 cs B g) 78 = .inl (cs 0, 48, .inl (fun _ => 0)) := (va_up_ne _ _ (by omega)).trans f_78
  have f_79 : (w_X_34 cs B g) 79 = .inl (cs 0, 48, .inl (fun _ => 0)) := (va_up_ne _ _ (by omega)).trans f_79
  have f_80 : (w_X_34 cs B g) 80 = .inl (cs 1, 3, .inl (fun _ => 0)) := (va_up_ne _ _ (by omega)).trans f_80
  have f_81 : (w_X_34 cs B g) 81 = .inl (cs 0, 3, .inl (fun _ => 0)) := (va_up_ne _ _ (by omega)).trans f_81
  have f_82 : (w_X_34 cs B g) 82 = .inl (cs 0, 3, .inl (fun _ => 0)) := (va_up_ne _ _ (by omega)).trans f_82
  have f_83 : (w_X_34 cs B g) 83 = .inl (cs 0, 3, .inl (fun _ => 0)) := (va_up_ne _ _ (by omega)).trans f_83
  have f_84 : (w_X_34 cs B g) 84 = .inl (cs 1, 3, .inl (fun _ => 0)) := (va_up_ne _ _ (by omega)).trans f_84
  have f_85 : (w_X_34 cs B g) 85 = .inl (cs 0, 3, .inl (fun _ => 0)) := (va_up_ne _ _ (by omega)).trans f_85
  have f_86 : (w_X_34 cs B g) 86 = .inl (cs 0, 3, .inl (fun _ => 0)) := (va_up_ne _ _ (by omega)).trans f_86
  have f_87 : (w_X_34 cs B g) 87 = .inl (cs 0, 1536, .inl (fun _ => 0)) := (va_up_ne _ _ (by omega)).trans f_87
  have f_88 : (w_X_34 cs B g) 88 = .inl (cs 0, 1536, .inl (fun _ => 0)) := (va_up_ne _ _ (by omega)).trans f_88
  have f_89 : (w_X_34 cs B g) 89 = .inl (cs 0, 9, .inl (fun _ => 0)) := (va_up_ne _ _ (by omega)).trans f_89
  have f_90 : (w_X_34 cs B g) 90 = .inl (cs 0, 9, .inl (fun _ => 0)) := (va_up_ne _ _ (by omega)).trans f_90
  have f_91 : (w_X_34 cs B g) 91 = .inl (cs 0, 72, .inl (fun _ => 0)) := (va_up_ne _ _ (by omega)).trans f_91
  have f_92 : (w_X_34 cs B g) 92 = .inl (cs 0, 60, .inl (fun _ => 0)) := (va_up_ne _ _ (by omega)).trans f_92
  have f_75 : (w_X_34 cs B g) 75 = .inr (5, [.ref (adr B 76), .ref (adr B 77), .ref (adr B 78), .ref (adr B 79), .ref (adr B 80), .ref (adr B 81), .ref (adr B 82), .ref (adr B 83), .ref (adr B 84), .ref (adr B 85), .ref (adr B 86), .ref (adr B 87), .ref (adr B 88), .ref (adr B 89), .ref (adr B 90), .ref (adr B 91), .int 0, .ref (adr B 92), .null, .null, .null, .null, .int 0, .int 0, .int 0, .int 0]) := va_up_self _ _ _
  refine lv_aload_n hx hb dX5_init_134 rfl (lv_at hl 0 rfl) ?_
  refine lv_bipush (v := 60) hx hb dX5_init_135 (by decide) ?_
  refine n_newi (n' := 60) hx hb (hts _ k_38) hK hP hS hBs hB (by decide) (by decide) (by decide) (Nat.le_of_ble_eq_true rfl) (Nat.le_of_ble_eq_true rfl) dX5_init_137 (fun H hP hS => ?_)
  have hP : va_P D vwCl (mw 94 (adr B) (w_X_35 cs B g)) H := hP
  have f_75 : (w_X_35 cs B g) 75 = .inr (5, [.ref (adr B 76), .ref (adr B 77), .ref (adr B 78), .ref (adr B 79), .ref (adr B 80), .ref (adr B 81), .ref (adr B 82), .ref (adr B 83), .ref (adr B 84), .ref (adr B 85), .ref (adr B 86), .ref (adr B 87), .ref (adr B 88), .ref (adr B 89), .ref (adr B 90), .ref (adr B 91), .int 0, .ref (adr B 92), .null, .null, .null, .null, .int 0, .int 0, .int 0, .int 0]) := (va_up_ne _ _ (by omega)).trans f_75
  have f_76 : (w_X_35 cs B g) 76 = .inl (cs 0, 3, .inl (fun _ => 0)) := (va_up_ne _ _ (by omega)).trans f_76
  have f_77 : (w_X_35 cs B g) 77 = .inl (cs 0, 48, .inl (fun _ => 0)) := (va_up_ne _ _ (by omega)).trans f_77
  have f_78 : (w_X_35 cs B g) 78 = .inl (cs 0, 48, .inl (fun _ => 0)) := (va_up_ne _ _ (by omega)).trans f_78
  have f_79 : (w_X_35 cs B g) 79 = .inl (cs 0, 48, .inl (fun _ => 0)) := (va_up_ne _ _ (by omega)).trans f_79
  have f_80 : (w_X_35 cs B g) 80 = .inl (cs 1, 3, .inl (fun _ => 0)) := (va_up_ne _ _ (by omega)).trans f_80
  have f_81 : (w_X_35 cs B g) 81 = .inl (cs 0, 3, .inl (fun _ => 0)) := (va_up_ne _ _ (by omega)).trans f_81
  have f_82 : (w_X_35 cs B g) 82 = .inl (cs 0, 3, .inl (fun _ => 0)) := (va_up_ne _ _ (by omega)).trans f_82
  have f_83 : (w_X_35 cs B g) 83 = .inl (cs 0, 3, .inl (fun _ => 0)) := (va_up_ne _ _ (by omega)).trans f_83
  have f_84 : (w_X_35 cs B g) 84 = .inl (cs 1, 3, .inl (fun _ => 0)) := (va_up_ne _ _ (by omega)).trans f_84
  have f_85 : (w_X_35 cs B g) 85 = .inl (cs 0, 3, .inl (fun _ => 0)) := (va_up_ne _ _ (by omega)).trans f_85
  have f_86 : (w_X_35 cs B g) 86 = .inl (cs 0, 3, .inl (fun _ => 0)) := (va_up_ne _ _ (by omega)).trans f_86
  have f_87 : (w_X_35 cs B g) 87 = .inl (cs 0, 1536, .inl (fun _ => 0)) := (va_up_ne _ _ (by omega)).trans f_87
  have f_88 : (w_X_35 cs B g) 88 = .inl (cs 0, 1536, .inl (fun _ => 0)) := (va_up_ne _ _ (by omega)).trans f_88
  have f_89 : (w_X_35 cs B g) 89 = .inl (cs 0, 9, .inl (fun _ => 0)) := (va_up_ne _ _ (by omega)).trans f_89
  have f_90 : (w_X_35 cs B g) 90 = .inl (cs 0, 9, .inl (fun _ => 0)) := (va_up_ne _ _ (by omega)).trans f_90
  have f_91 : (w_X_35 cs B g) 91 = .inl (cs 0, 72, .inl (fun _ => 0)) := (va_up_ne _ _ (by omega)).trans f_91
  have f_92 : (w_X_35 cs B g) 92 = .inl (cs 0, 60, .inl (fun _ => 0)) := (va_up_ne _ _ (by omega)).trans f_92
  have f_93 : (w_X_35 cs B g) 93 = .inl (cs 0, 60, .inl (fun _ => 0)) := va_up_self _ _ _
  refine W.widen (k := 18) (n := 3450) (Nat.le_of_ble_eq_true rfl) (Nat.le_of_ble_eq_true rfl) ?_
  have hB : s.heap.size + 18 = B + 94 := by omega
  refine va_putF (D := D) (ci := 5) (v := .ref (adr B 93)) (ty := .array .int) (C := RX5) (T := TX5) (N := 26) hx hb hts inX5 tyX5 tyX5_ok nmX5 hown hK hP nD hS 75 (n_at (by omega) f_75) rfl 18 (by decide) (hts _ k_293) (fun _ h9 => h9) rfl hin rfl (by decide +kernel) rfl rfl (Nat.le_of_ble_eq_true rfl) dX5_init_139 (fun H locs hP _ hS => ?_)
  have hP := n_put (by omega) hP
  have hP : va_P D vwCl (mw 94 (adr B) (w_X_36 cs B g)) H := hP
  have f_76 : (w_X_36 cs B g) 76 = .inl (cs 0, 3, .inl (fun _ => 0)) := (va_up_ne _ _ (by omega)).trans f_76
  have f_77 : (w_X_36 cs B g) 77 = .inl (cs 0, 48, .inl (fun _ => 0)) := (va_up_ne _ _ (by omega)).trans f_77
  have f_78 : (w_X_36 cs B g) 78 = .inl (cs 0, 48, .inl (fun _ => 0)) := (va_up_ne _ _ (by omega)).trans f_78
  have f_79 : (w_X_36 cs B g) 79 = .inl (cs 0, 48, .inl (fun _ => 0)) := (va_up_ne _ _ (by omega)).trans f_79
  have f_80 : (w_X_36 cs B g) 80 = .inl (cs 1, 3, .inl (fun _ => 0)) := (va_up_ne _ _ (by omega)).trans f_80
  have f_81 : (w_X_36 cs B g) 81 = .inl (cs 0, 3, .inl (fun _ => 0)) := (va_up_ne _ _ (by omega)).trans f_81
  have f_82 : (w_X_36 cs B g) 82 = .inl (cs 0, 3, .inl (fun _ => 0)) := (va_up_ne _ _ (by omega)).trans f_82
  have f_83 : (w_X_36 cs B g) 83 = .inl (cs 0, 3, .inl (fun _ => 0)) := (va_up_ne _ _ (by omega)).trans f_83
  have f_84 : (w_X_36 cs B g) 84 = .inl (cs 1, 3, .inl (fun _ => 0)) := (va_up_ne _ _ (by omega)).trans f_84
  have f_85 : (w_X_36 cs B g) 85 = .inl (cs 0, 3, .inl (fun _ => 0)) := (va_up_ne _ _ (by omega)).trans f_85
  have f_86 : (w_X_36 cs B g) 86 = .inl (cs 0, 3, .inl (fun _ => 0)) := (va_up_ne _ _ (by omega)).trans f_86
  have f_87 : (w_X_36 cs B g) 87 = .inl (cs 0, 1536, .inl (fun _ => 0)) := (va_up_ne _ _ (by omega)).trans f_87
  have f_88 : (w_X_36 cs B g) 88 = .inl (cs 0, 1536, .inl (fun _ => 0)) := (va_up_ne _ _ (by omega)).trans f_88
  have f_89 : (w_X_36 cs B g) 89 = .inl (cs 0, 9, .inl (fun _ => 0)) := (va_up_ne _ _ (by omega)).trans f_89
  have f_90 : (w_X_36 cs B g) 90 = .inl (cs 0, 9, .inl (fun _ => 0)) := (va_up_ne _ _ (by omega)).trans f_90
  have f_91 : (w_X_36 cs B g) 91 = .inl (cs 0, 72, .inl (fun _ => 0)) := (va_up_ne _ _ (by omega)).trans f_91
  have f_92 : (w_X_36 cs B g) 92 = .inl (cs 0, 60, .inl (fun _ => 0)) := (va_up_ne _ _ (by omega)).trans f_92
  have f_93 : (w_X_36 cs B g) 93 = .inl (cs 0, 60, .inl (fun _ => 0)) := (va_up_ne _ _ (by omega)).trans f_93
  have f_75 : (w_X_36 cs B g) 75 = .inr (5, [.ref (adr B 76), .ref (adr B 77), .ref (adr B 78), .ref (adr B 79), .ref (adr B 80), .ref (adr B 81), .ref (adr B 82), .ref (adr B 83), .ref (adr B 84), .ref (adr B 85), .ref (adr B 86), .ref (adr B 87), .ref (adr B 88), .ref (adr B 89), .ref (adr B 90), .ref (adr B 91), .int 0, .ref (adr B 92), .ref (adr B 93), .null, .null, .null, .int 0, .int 0, .int 0, .int 0]) := va_up_self _ _ _
  refine lv_aload_n hx hb dX5_init_142 rfl (lv_at hl 0 rfl) ?_
  refine lv_iconst (v := 3) hx hb dX5_init_143 (by decide) ?_
  refine n_newi (n' := 3) hx hb (hts _ k_38) hK hP hS hBs hB (by decide) (by decide) (by decide) (Nat.le_of_ble_eq_true rfl) (Nat.le_of_ble_eq_true rfl) dX5_init_144 (fun H hP hS => ?_)
  have hP : va_P D vwCl (mw 95 (adr B) (w_X_37 cs B g)) H := hP
  have f_75 : (w_X_37 cs B g) 75 = .inr (5, [.ref (adr B 76), .ref (adr B 77), .ref (adr B 78), .ref (adr B 79), .ref (adr B 80), .ref (adr B 81), .ref (adr B 82), .ref (adr B 83), .ref (adr B 84), .ref (adr B 85), .ref (adr B 86), .ref (adr B 87), .ref (adr B 88), .ref (adr B 89), .ref (adr B 90), .ref (adr B 91), .int 0, .ref (adr B 92), .ref (adr B 93), .null, .null, .null, .int 0, .int 0, .int 0, .int 0]) := (va_up_ne _ _ (by omega)).trans f_75
  have f_76 : (w_X_37 cs B g) 76 = .inl (cs 0, 3, .inl (fun _ => 0)) := (va_up_ne _ _ (by omega)).trans f_76
  have f_77 : (w_X_37 cs B g) 77 = .inl (cs 0, 48, .inl (fun _ => 0)) := (va_up_ne _ _ (by omega)).trans f_77
  have f_78 : (w_X_37 cs B g) 78 = .inl (cs 0, 48, .inl (fun _ => 0)) := (va_up_ne _ _ (by omega)).trans f_78
  have f_79 : (w_X_37 cs B g) 79 = .inl (cs 0, 48, .inl (fun _ => 0)) := (va_up_ne _ _ (by omega)).trans f_79
  have f_80 : (w_X_37 cs B g) 80 = .inl (cs 1, 3, .inl (fun _ => 0)) := (va_up_ne _ _ (by omega)).trans f_80
  have f_81 : (w_X_37 cs B g) 81 = .inl (cs 0, 3, .inl (fun _ => 0)) := (va_up_ne _ _ (by omega)).trans f_81
  have f_82 : (w_X_37 cs B g) 82 = .inl (cs 0, 3, .inl (fun _ => 0)) := (va_up_ne _ _ (by omega)).trans f_82
  have f_83 : (w_X_37 cs B g) 83 = .inl (cs 0, 3, .inl (fun _ => 0)) := (va_up_ne _ _ (by omega)).trans f_83
  have f_84 : (w_X_37 cs B g) 84 = .inl (cs 1, 3, .inl (fun _ => 0)) := (va_up_ne _ _ (by omega)).trans f_84
  have f_85 : (w_X_37 cs B g) 85 = .inl (cs 0, 3, .inl (fun _ => 0)) := (va_up_ne _ _ (by omega)).trans f_85
  have f_86 : (w_X_37 cs B g) 86 = .inl (cs 0, 3, .inl (fun _ => 0)) := (va_up_ne _ _ (by omega)).trans f_86
  have f_87 : (w_X_37 cs B g) 87 = .inl (cs 0, 1536, .inl (fun _ => 0)) := (va_up_ne _ _ (by omega)).trans f_87
  have f_88 : (w_X_37 cs B g) 88 = .inl (cs 0, 1536, .inl (fun _ => 0)) := (va_up_ne _ _ (by omega)).trans f_88
  have f_89 : (w_X_37 cs B g) 89 = .inl (cs 0, 9, .inl (fun _ => 0)) := (va_up_ne _ _ (by omega)).trans f_89
  have f_90 : (w_X_37 cs B g) 90 = .inl (cs 0, 9, .inl (fun _ => 0)) := (va_up_ne _ _ (by omega)).trans f_90
  have f_91 : (w_X_37 cs B g) 91 = .inl (cs 0, 72, .inl (fun _ => 0)) := (va_up_ne _ _ (by omega)).trans f_91
  have f_92 : (w_X_37 cs B g) 92 = .inl (cs 0, 60, .inl (fun _ => 0)) := (va_up_ne _ _ (by omega)).trans f_92
  have f_93 : (w_X_37 cs B g) 93 = .inl (cs 0, 60, .inl (fun _ => 0)) := (va_up_ne _ _ (by omega)).trans f_93
  have f_94 : (w_X_37 cs B g) 94 = .inl (cs 0, 3, .inl (fun _ => 0)) := va_up_self _ _ _
  refine W.widen (k := 19) (n := 3453) (Nat.le_of_ble_eq_true rfl) (Nat.le_of_ble_eq_true rfl) ?_
  have hB : s.heap.size + 19 = B + 95 := by omega
  refine va_putF (D := D) (ci := 5) (v := .ref (adr B 94)) (ty := .array .int) (C := RX5) (T := TX5) (N := 26) hx hb hts inX5 tyX5 tyX5_ok nmX5 hown hK hP nD hS 75 (n_at (by omega) f_75) rfl 19 (by decide) (hts _ k_294) (fun _ h9 => h9) rfl hin rfl (by decide +kernel) rfl rfl (Nat.le_of_ble_eq_true rfl) dX5_init_146 (fun H locs hP _ hS => ?_)
  have hP := n_put (by omega) hP
  have hP : va_P D vwCl (mw 95 (adr B) (w_X_38 cs B g)) H := hP
  have f_76 : (w_X_38 cs B g) 76 = .inl (cs 0, 3, .inl (fun _ => 0)) := (va_up_ne _ _ (by omega)).trans f_76
  have f_77 : (w_X_38 cs B g) 77 = .inl (cs 0, 48, .inl (fun _ => 0)) := (va_up_ne _ _ (by omega)).trans f_77
  have f_78 : (w_X_38 cs B g) 78 = .inl (cs 0, 48, .inl (fun _ => 0)) := (va_up_ne _ _ (by omega)).trans f_78
  have f_79 : (w_X_38 cs B g) 79 = .inl (cs 0, 48, .inl (fun _ => 0)) := (va_up_ne _ _ (by omega)).trans f_79
  have f_80 : (w_X_38 cs B g) 80 = .inl (cs 1, 3, .inl (fun _ => 0)) := (va_up_ne _ _ (by omega)).trans f_80
  have f_81 : (w_X_38 cs B g) 81 = .inl (cs 0, 3, .inl (fun _ => 0)) := (va_up_ne _ _ (by omega)).trans f_81
  have f_82 : (w_X_38 cs B g) 82 = .inl (cs 0, 3, .inl (fun _ => 0)) := (va_up_ne _ _ (by omega)).trans f_82
  have f_83 : (w_X_38 cs B g) 83 = .inl (cs 0, 3, .inl (fun _ => 0)) := (va_up_ne _ _ (by omega)).trans f_83
  have f_84 : (w_X_38 cs B g) 84 = .inl (cs 1, 3, .inl (fun _ => 0)) := (va_up_ne _ _ (by omega)).trans f_84
  have f_85 : (w_X_38 cs B g) 85 = .inl (cs 0, 3, .inl (fun _ => 0)) := (va_up_ne _ _ (by omega)).trans f_85
  have f_86 : (w_X_38 cs B g) 86 = .inl (cs 0, 3, .inl (fun _ => 0)) := (va_up_ne _ _ (by omega)).trans f_86
  have f_87 : (w_X_38 cs B g) 87 = .inl (cs 0, 1536, .inl (fun _ => 0)) := (va_up_ne _ _ (by omega)).trans f_87
  have f_88 : (w_X_38 cs B g) 88 = .inl (cs 0, 1536, .inl (fun _ => 0)) := (va_up_ne _ _ (by omega)).trans f_88
  have f_89 : (w_X_38 cs B g) 89 = .inl (cs 0, 9, .inl (fun _ => 0)) := (va_up_ne _ _ (by omega)).trans f_89
  have f_90 : (w_X_38 cs B g) 90 = .inl (cs 0, 9, .inl (fun _ => 0)) := (va_up_ne _ _ (by omega)).trans f_90
  have f_91 : (w_X_38 cs B g) 91 = .inl (cs 0, 72, .inl (fun _ => 0)) := (va_up_ne _ _ (by omega)).trans f_91
  have f_92 : (w_X_38 cs B g) 92 = .inl (cs 0, 60, .inl (fun _ => 0)) := (va_up_ne _ _ (by omega)).trans f_92
  have f_93 : (w_X_38 cs B g) 93 = .inl (cs 0, 60, .inl (fun _ => 0)) := (va_up_ne _ _ (by omega)).trans f_93
  have f_94 : (w_X_38 cs B g) 94 = .inl (cs 0, 3, .inl (fun _ => 0)) := (va_up_ne _ _ (by omega)).trans f_94
  have f_75 : (w_X_38 cs B g) 75 = .inr (5, [.ref (adr B 76), .ref (adr B 77), .ref (adr B 78), .ref (adr B 79), .ref (adr B 80), .ref (adr B 81), .ref (adr B 82), .ref (adr B 83), .ref (adr B 84), .ref (adr B 85), .ref (adr B 86), .ref (adr B 87), .ref (adr B 88), .ref (adr B 89), .ref (adr B 90), .ref (adr B 91), .int 0, .ref (adr B 92), .ref (adr B 93), .ref (adr B 94), .null, .null, .int 0, .int 0, .int 0, .int 0]) := va_up_self _ _ _
  refine lv_aload_n hx hb dX5_init_149 rfl (lv_at hl 0 rfl) ?_
  refine lv_iconst (v := 4) hx hb dX5_init_150 (by decide) ?_
  refine n_newi (n' := 4) hx hb (hts _ k_38) hK hP hS hBs hB (by decide) (by decide) (by decide) (Nat.le_of_ble_eq_true rfl) (Nat.le_of_ble_eq_true rfl) dX5_init_151 (fun H hP hS => ?_)
  have hP : va_P D vwCl (mw 96 (adr B) (w_X_39 cs B g)) H := hP
  have f_75 : (w_X_39 cs B g) 75 = .inr (5, [.ref (adr B 76), .ref (adr B 77), .ref (adr B 78), .ref (adr B 79), .ref (adr B 80), .ref (adr B 81), .ref (adr B 82), .ref (adr B 83), .ref (adr B 84), .ref (adr B 85), .ref (adr B 86), .ref (adr B 87), .ref (adr B 88), .ref (adr B 89), .ref (adr B 90), .ref (adr B 91), .int 0, .ref (adr B 92), .ref (adr B 93), .ref (adr B 94), .null, .null, .int 0, .int 0, .int 0, .int 0]) := (va_up_ne _ _ (by omega)).trans f_75
  have f_76 : (w_X_39 cs B g) 76 = .inl (cs 0, 3, .inl (fun _ => 0)) := (va_up_ne _ _ (by omega)).trans f_76
  have f_77 : (w_X_39 cs B g) 77 = .inl (cs 0, 48, .inl (fun _ => 0)) := (va_up_ne _ _ (by omega)).trans f_77
  have f_78 : (w_X_39 cs B g) 78 = .inl (cs 0, 48, .inl (fun _ => 0)) := (va_up_ne _ _ (by omega)).trans f_78
  have f_79 : (w_X_39 cs B g) 79 = .inl (cs 0, 48, .inl (fun _ => 0)) := (va_up_ne _ _ (by omega)).trans f_79
  have f_80 : (w_X_39 cs B g) 80 = .inl (cs 1, 3, .inl (fun _ => 0)) := (va_up_ne _ _ (by omega)).trans f_80
  have f_81 : (w_X_39 cs B g) 81 = .inl (cs 0, 3, .inl (fun _ => 0)) := (va_up_ne _ _ (by omega)).trans f_81
  have f_82 : (w_X_39 cs B g) 82 = .inl (cs 0, 3, .inl (fun _ => 0)) := (va_up_ne _ _ (by omega)).trans f_82
  have f_83 : (w_X_39 cs B g) 83 = .inl (cs 0, 3, .inl (fun _ => 0)) := (va_up_ne _ _ (by omega)).trans f_83
  have f_84 : (w_X_39 cs B g) 84 = .inl (cs 1, 3, .inl (fun _ => 0)) := (va_up_ne _ _ (by omega)).trans f_84
  have f_85 : (w_X_39 cs B g) 85 = .inl (cs 0, 3, .inl (fun _ => 0)) := (va_up_ne _ _ (by omega)).trans f_85
  have f_86 : (w_X_39 cs B g) 86 = .inl (cs 0, 3, .inl (fun _ => 0)) := (va_up_ne _ _ (by omega)).trans f_86
  have f_87 : (w_X_39 cs B g) 87 = .inl (cs 0, 1536, .inl (fun _ => 0)) := (va_up_ne _ _ (by omega)).trans f_87
  have f_88 : (w_X_39 cs B g) 88 = .inl (cs 0, 1536, .inl (fun _ => 0)) := (va_up_ne _ _ (by omega)).trans f_88
  have f_89 : (w_X_39 cs B g) 89 = .inl (cs 0, 9, .inl (fun _ => 0)) := (va_up_ne _ _ (by omega)).trans f_89
  have f_90 : (w_X_39 cs B g) 90 = .inl (cs 0, 9, .inl (fun _ => 0)) := (va_up_ne _ _ (by omega)).trans f_90
  have f_91 : (w_X_39 cs B g) 91 = .inl (cs 0, 72, .inl (fun _ => 0)) := (va_up_ne _ _ (by omega)).trans f_91
  have f_92 : (w_X_39 cs B g) 92 = .inl (cs 0, 60, .inl (fun _ => 0)) := (va_up_ne _ _ (by omega)).trans f_92
  have f_93 : (w_X_39 cs B g) 93 = .inl (cs 0, 60, .inl (fun _ => 0)) := (va_up_ne _ _ (by omega)).trans f_93
  have f_94 : (w_X_39 cs B g) 94 = .inl (cs 0, 3, .inl (fun _ => 0)) := (va_up_ne _ _ (by omega)).trans f_94
  have f_95 : (w_X_39 cs B g) 95 = .inl (cs 0, 4, .inl (fun _ => 0)) := va_up_self _ _ _
  refine W.widen (k := 20) (n := 3457) (Nat.le_of_ble_eq_true rfl) (Nat.le_of_ble_eq_true rfl) ?_
  have hB : s.heap.size + 20 = B + 96 := by omega
  refine va_putF (D := D) (ci := 5) (v := .ref (adr B 95)) (ty := .array .int) (C := RX5) (T := TX5) (N := 26) hx hb hts inX5 tyX5 tyX5_ok nmX5 hown hK hP nD hS 75 (n_at (by omega) f_75) rfl 20 (by decide) (hts _ k_295) (fun _ h9 => h9) rfl hin rfl (by decide +kernel) rfl rfl (Nat.le_of_ble_eq_true rfl) dX5_init_153 (fun H locs hP _ hS => ?_)
  have hP := n_put (by omega) hP
  have hP : va_P D vwCl (mw 96 (adr B) (w_X_40 cs B g)) H := hP
  have f_76 : (w_X_40 cs B g) 76 = .inl (cs 0, 3, .inl (fun _ => 0)) := (va_up_ne _ _ (by omega)).trans f_76
  have f_77 : (w_X_40 cs B g) 77 = .inl (cs 0, 48, .inl (fun _ => 0)) := (va_up_ne _ _ (by omega)).trans f_77
  have f_78 : (w_X_40 cs B g) 78 = .inl (cs 0, 48, .inl (fun _ => 0)) := (va_up_ne _ _ (by omega)).trans f_78
  have f_79 : (w_X_40 cs B g) 79 = .inl (cs 0, 48, .inl (fun _ => 0)) := (va_up_ne _ _ (by omega)).trans f_79
  have f_80 : (w_X_40 cs B g) 80 = .inl (cs 1, 3, .inl (fun _ => 0)) := (va_up_ne _ _ (by omega)).trans f_80
  have f_81 : (w_X_40 cs B g) 81 = .inl (cs 0, 3, .inl (fun _ => 0)) := (va_up_ne _ _ (by omega)).trans f_81
  have f_82 : (w_X_40 cs B g) 82 = .inl (cs 0, 3, .inl (fun _ => 0)) := (va_up_ne _ _ (by omega)).trans f_82
  have f_83 : (w_X_40 cs B g) 83 = .inl (cs 0, 3, .inl (fun _ => 0)) := (va_up_ne _ _ (by omega)).trans f_83
  have f_84 : (w_X_40 cs B g) 84 = .inl (cs 1, 3, .inl (fun _ => 0)) := (va_up_ne _ _ (by omega)).trans f_84
  have f_85 : (w_X_40 cs B g) 85 = .inl (cs 0, 3, .inl (fun _ => 0)) := (va_up_ne _ _ (by omega)).trans f_85
  have f_86 : (w_X_40 cs B g) 86 = .inl (cs 0, 3, .inl (fun _ => 0)) := (va_up_ne _ _ (by omega)).trans f_86
  have f_87 : (w_X_40 cs B g) 87 = .inl (cs 0, 1536, .inl (fun _ => 0)) := (va_up_ne _ _ (by omega)).trans f_87
  have f_88 : (w_X_40 cs B g) 88 = .inl (cs 0, 1536, .inl (fun _ => 0)) := (va_up_ne _ _ (by omega)).trans f_88
  have f_89 : (w_X_40 cs B g) 89 = .inl (cs 0, 9, .inl (fun _ => 0)) := (va_up_ne _ _ (by omega)).trans f_89
  have f_90 : (w_X_40 cs B g) 90 = .inl (cs 0, 9, .inl (fun _ => 0)) := (va_up_ne _ _ (by omega)).trans f_90
  have f_91 : (w_X_40 cs B g) 91 = .inl (cs 0, 72, .inl (fun _ => 0)) := (va_up_ne _ _ (by omega)).trans f_91
  have f_92 : (w_X_40 cs B g) 92 = .inl (cs 0, 60, .inl (fun _ => 0)) := (va_up_ne _ _ (by omega)).trans f_92
  have f_93 : (w_X_40 cs B g) 93 = .inl (cs 0, 60, .inl (fun _ => 0)) := (va_up_ne _ _ (by omega)).trans f_93
  have f_94 : (w_X_40 cs B g) 94 = .inl (cs 0, 3, .inl (fun _ => 0)) := (va_up_ne _ _ (by omega)).trans f_94
  have f_95 : (w_X_40 cs B g) 95 = .inl (cs 0, 4, .inl (fun _ => 0)) := (va_up_ne _ _ (by omega)).trans f_95
  have f_75 : (w_X_40 cs B g) 75 = .inr (5, [.ref (adr B 76), .ref (adr B 77), .ref (adr B 78), .ref (adr B 79), .ref (adr B 80), .ref (adr B 81), .ref (adr B 82), .ref (adr B 83), .ref (adr B 84), .ref (adr B 85), .ref (adr B 86), .ref (adr B 87), .ref (adr B 88), .ref (adr B 89), .ref (adr B 90), .ref (adr B 91), .int 0, .ref (adr B 92), .ref (adr B 93), .ref (adr B 94), .ref (adr B 95), .null, .int 0, .int 0, .int 0, .int 0]) := va_up_self _ _ _
  refine lv_aload_n hx hb dX5_init_156 rfl (lv_at hl 0 rfl) ?_
  refine lv_iconst (v := 3) hx hb dX5_init_157 (by decide) ?_
  refine n_newi (n' := 3) hx hb (hts _ k_38) hK hP hS hBs hB (by decide) (by decide) (by decide) (Nat.le_of_ble_eq_true rfl) (Nat.le_of_ble_eq_true rfl) dX5_init_158 (fun H hP hS => ?_)
  have hP : va_P D vwCl (mw 97 (adr B) (w_X_41 cs B g)) H := hP
  have f_75 : (w_X_41 cs B g) 75 = .inr (5, [.ref (adr B 76), .ref (adr B 77), .ref (adr B 78), .ref (adr B 79), .ref (adr B 80), .ref (adr B 81), .ref (adr B 82), .ref (adr B 83), .ref (adr B 84), .ref (adr B 85), .ref (adr B 86), .ref (adr B 87), .ref (adr B 88), .ref (adr B 89), .ref (adr B 90), .ref (adr B 91), .int 0, .ref (adr B 92), .ref (adr B 93), .ref (adr B 94), .ref (adr B 95), .null, .int 0, .int 0, .int 0, .int 0]) := (va_up_ne _ _ (by omega)).trans f_75
  have f_76 : (w_X_41 cs B g) 76 = .inl (cs 0, 3, .inl (fun _ => 0)) := (va_up_ne _ _ (by omega)).trans f_76
  have f_77 : (w_X_41 cs B g) 77 = .inl (cs 0, 48, .inl (fun _ => 0)) := (va_up_ne _ _ (by omega)).trans f_77
  have f_78 : (w_X_41 cs B g) 78 = .inl (cs 0, 48, .inl (fun _ => 0)) := (va_up_ne _ _ (by omega)).trans f_78
  have f_79 : (w_X_41 cs B g) 79 = .inl (cs 0, 48, .inl (fun _ => 0)) := (va_up_ne _ _ (by omega)).trans f_79
  have f_80 : (w_X_41 cs B g) 80 = .inl (cs 1, 3, .inl (fun _ => 0)) := (va_up_ne _ _ (by omega)).trans f_80
  have f_81 : (w_X_41 cs B g) 81 = .inl (cs 0, 3, .inl (fun _ => 0)) := (va_up_ne _ _ (by omega)).trans f_81
  have f_82 : (w_X_41 cs B g) 82 = .inl (cs 0, 3, .inl (fun _ => 0)) := (va_up_ne _ _ (by omega)).trans f_82
  have f_83 : (w_X_41 cs B g) 83 = .inl (cs 0, 3, .inl (fun _ => 0)) := (va_up_ne _ _ (by omega)).trans f_83
  have f_84 : (w_X_41 cs B g) 84 = .inl (cs 1, 3, .inl (fun _ => 0)) := (va_up_ne _ _ (by omega)).trans f_84
  have f_85 : (w_X_41 cs B g) 85 = .inl (cs 0, 3, .inl (fun _ => 0)) := (va_up_ne _ _ (by omega)).trans f_85
  have f_86 : (w_X_41 cs B g) 86 = .inl (cs 0, 3, .inl (fun _ => 0)) := (va_up_ne _ _ (by omega)).trans f_86
  have f_87 : (w_X_41 cs B g) 87 = .inl (cs 0, 1536, .inl (fun _ => 0)) := (va_up_ne _ _ (by omega)).trans f_87
  have f_88 : (w_X_41 cs B g) 88 = .inl (cs 0, 1536, .inl (fun _ => 0)) := (va_up_ne _ _ (by omega)).trans f_88
  have f_89 : (w_X_41 cs B g) 89 = .inl (cs 0, 9, .inl (fun _ => 0)) := (va_up_ne _ _ (by omega)).trans f_89
  have f_90 : (w_X_41 cs B g) 90 = .inl (cs 0, 9, .inl (fun _ => 0)) := (va_up_ne _ _ (by omega)).trans f_90
  have f_91 : (w_X_41 cs B g) 91 = .inl (cs 0, 72, .inl (fun _ => 0)) := (va_up_ne _ _ (by omega)).trans f_91
  have f_92 : (w_X_41 cs B g) 92 = .inl (cs 0, 60, .inl (fun _ => 0)) := (va_up_ne _ _ (by omega)).trans f_92
  have f_93 : (w_X_41 cs B g) 93 = .inl (cs 0, 60, .inl (fun _ => 0)) := (va_up_ne _ _ (by omega)).trans f_93
  have f_94 : (w_X_41 cs B g) 94 = .inl (cs 0, 3, .inl (fun _ => 0)) := (va_up_ne _ _ (by omega)).trans f_94
  have f_95 : (w_X_41 cs B g) 95 = .inl (cs 0, 4, .inl (fun _ => 0)) := (va_up_ne _ _ (by omega)).trans f_95
  have f_96 : (w_X_41 cs B g) 96 = .inl (cs 0, 3, .inl (fun _ => 0)) := va_up_self _ _ _
  refine W.widen (k := 21) (n := 3460) (Nat.le_of_ble_eq_true rfl) (Nat.le_of_ble_eq_true rfl) ?_
  have hB : s.heap.size + 21 = B + 97 := by omega
  refine va_putF (D := D) (ci := 5) (v := .ref (adr B 96)) (ty := .array .int) (C := RX5) (T := TX5) (N := 26) hx hb hts inX5 tyX5 tyX5_ok nmX5 hown hK hP nD hS 75 (n_at (by omega) f_75) rfl 21 (by decide) (hts _ k_296) (fun _ h9 => h9) rfl hin rfl (by decide +kernel) rfl rfl (Nat.le_of_ble_eq_true rfl) dX5_init_160 (fun H locs hP _ hS => ?_)
  have hP := n_put (by omega) hP
  have hP : va_P D vwCl (mw 97 (adr B) (w_X_42 cs B g)) H := hP
  have f_76 : (w_X_42 cs B g) 76 = .inl (cs 0, 3, .inl (fun _ => 0)) := (va_up_ne _ _ (by omega)).trans f_76
  have f_77 : (w_X_42 cs B g) 77 = .inl (cs 0, 48, .inl (fun _ => 0)) := (va_up_ne _ _ (by omega)).trans f_77
  have f_78 : (w_X_42 cs B g) 78 = .inl (cs 0, 48, .inl (fun _ => 0)) := (va_up_ne _ _ (by omega)).trans f_78
  have f_79 : (w_X_42 cs B g) 79 = .inl (cs 0, 48, .inl (fun _ => 0)) := (va_up_ne _ _ (by omega)).trans f_79
  have f_80 : (w_X_42 cs B g) 80 = .inl (cs 1, 3, .inl (fun _ => 0)) := (va_up_ne _ _ (by omega)).trans f_80
  have f_81 : (w_X_42 cs B g) 81 = .inl (cs 0, 3, .inl (fun _ => 0)) := (va_up_ne _ _ (by omega)).trans f_81
  have f_82 : (w_X_42 cs B g) 82 = .inl (cs 0, 3, .inl (fun _ => 0)) := (va_up_ne _ _ (by omega)).trans f_82
  have f_83 : (w_X_42 cs B g) 83 = .inl (cs 0, 3, .inl (fun _ => 0)) := (va_up_ne _ _ (by omega)).trans f_83
  have f_84 : (w_X_42 cs B g) 84 = .inl (cs 1, 3, .inl (fun _ => 0)) := (va_up_ne _ _ (by omega)).trans f_84
  have f_85 : (w_X_42 cs B g) 85 = .inl (cs 0, 3, .inl (fun _ => 0)) := (va_up_ne _ _ (by omega)).trans f_85
  have f_86 : (w_X_42 cs B g) 86 = .inl (cs 0, 3, .inl (fun _ => 0)) := (va_up_ne _ _ (by omega)).trans f_86
  have f_87 : (w_X_42 cs B g) 87 = .inl (cs 0, 1536, .inl (fun _ => 0)) := (va_up_ne _ _ (by omega)).trans f_87
  have f_88 : (w_X_42 cs B g) 88 = .inl (cs 0, 1536, .inl (fun _ => 0)) := (va_up_ne _ _ (by omega)).trans f_88
  have f_89 : (w_X_42 cs B g) 89 = .inl (cs 0, 9, .inl (fun _ => 0)) := (va_up_ne _ _ (by omega)).trans f_89
  have f_90 : (w_X_42 cs B g) 90 = .inl (cs 0, 9, .inl (fun _ => 0)) := (va_up_ne _ _ (by omega)).trans f_90
  have f_91 : (w_X_42 cs B g) 91 = .inl (cs 0, 72, .inl (fun _ => 0)) := (va_up_ne _ _ (by omega)).trans f_91
  have f_92 : (w_X_42 cs B g) 92 = .inl (cs 0, 60, .inl (fun _ => 0)) := (va_up_ne _ _ (by omega)).trans f_92
  have f_93 : (w_X_42 cs B g) 93 = .inl (cs 0, 60, .inl (fun _ => 0)) := (va_up_ne _ _ (by omega)).trans f_93
  have f_94 : (w_X_42 cs B g) 94 = .inl (cs 0, 3, .inl (fun _ => 0)) := (va_up_ne _ _ (by omega)).trans f_94
  have f_95 : (w_X_42 cs B g) 95 = .inl (cs 0, 4, .inl (fun _ => 0)) := (va_up_ne _ _ (by omega)).trans f_95
  have f_96 : (w_X_42 cs B g) 96 = .inl (cs 0, 3, .inl (fun _ => 0)) := (va_up_ne _ _ (by omega)).trans f_96
  have f_75 : (w_X_42 cs B g) 75 = .inr (5, [.ref (adr B 76), .ref (adr B 77), .ref (adr B 78), .ref (adr B 79), .ref (adr B 80), .ref (adr B 81), .ref (adr B 82), .ref (adr B 83), .ref (adr B 84), .ref (adr B 85), .ref (adr B 86), .ref (adr B 87), .ref (adr B 88), .ref (adr B 89), .ref (adr B 90), .ref (adr B 91), .int 0, .ref (adr B 92), .ref (adr B 93), .ref (adr B 94), .ref (adr B 95), .ref (adr B 96), .int 0, .int 0, .int 0, .int 0]) := va_up_self _ _ _
  exact n_ret hx hb hr hlocks dX5_init_163 hP hS

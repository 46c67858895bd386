def f_G_isProcess  (x1 : Int32) : Int32 := (if x1 < 0 then 0 else (if 3 ≤ x1 then 0 else 1))
theorem z_G_isProcess  (x1 : Int32) : narrow .boolean (.int (f_G_isProcess x1)) = .int (f_G_isProcess x1) := by
  unfold f_G_isProcess
  (repeat' split) <;> first | (with_reducible exact nbp0) | (with_reducible exact nbp1)
set_option maxHeartbeats 4000000 in
set_option maxRecDepth 100000 in
theorem c_G_isProcess (l : Launch) (D : va_G) (cs : Nat → ClassId) (ad : Nat → Nat) (hi : mi ad) (I : Mm) (x1 : Int32) : MC l yX4_isProcess wX4_isProcess { frames := 0, cells := 0, slots := 0, locals := 0 } D cs ad [.int x1] I (some (.int (f_G_isProcess x1))) I := by
  refine q_enter (cc := cX4_isProcess) (maxL := 1) (ret := (some .boolean)) (by decide +kernel) rfl (Nat.le_of_ble_eq_true rfl) ?_
  intro p e s m below meth c ls hx hb hr hml hown hts hlocks hK hP hS hl
  have hown : s.vm.findClass RX4 = some m.cls := hown
  have hts : ∀ w ∈ gtbl, w.before _ s = true := fun w h => hts w (List.mem_cons_of_mem _ h)
  have hl : lv_has ls 1 [(0, .int x1)] := hl
  refine lv_iload_n hx hb dX4_isProcess_0 rfl (lv_at hl 0 rfl) ?_
  refine lv_if_lt (tgt := 13) hx hb dX4_isProcess_1 (by decide) (fun c1 => ?_) (fun c1 => ?_)
  · have c1 := c1
    refine lv_iconst (v := 0) hx hb dX4_isProcess_13 (by decide) ?_
    exact q_zretP hx hb hr hlocks dX4_isProcess_14 hP hS rfl (by rw [f_G_isProcess, if_pos c1])
  · have c1 := c1
    refine lv_iload_n hx hb dX4_isProcess_4 rfl (lv_at hl 0 rfl) ?_
    refine lv_iconst (v := 3) hx hb dX4_isProcess_5 (by decide) ?_
    refine lv_icmp_ge (tgt := 13) hx hb dX4_isProcess_6 (by decide) (fun c2 => ?_) (fun c2 => ?_)
    · have c2 := c2
      refine lv_iconst (v := 0) hx hb dX4_isProcess_13 (by decide) ?_
      exact q_zretP hx hb hr hlocks dX4_isProcess_14 hP hS rfl (by rw [f_G_isProcess, if_neg c1, if_pos c2])
    · have c2 := c2
      refine lv_iconst (v := 1) hx hb dX4_isProcess_9 (by decide) ?_
      refine lv_goto (tgt := 14) hx hb dX4_isProcess_10 (by decide) ?_
      exact q_zretP hx hb hr hlocks dX4_isProcess_14 hP hS rfl (by rw [f_G_isProcess, if_neg c1, if_neg c2])
def f_G_isRegister  (x1 : Int32) : Int32 := (if x1 < 0 then 0 else (if 4 ≤ x1 then 0 else 1))
theorem z_G_isRegister  (x1 : Int32) : narrow .boolean (.int (f_G_isRegister x1)) = .int (f_G_isRegister x1) := by
  unfold f_G_isRegister
  (repeat' split) <;> first | (with_reducible exact nbp0) | (with_reducible exact nbp1)
set_option maxHeartbeats 4000000 in
set_option maxRecDepth 100000 in
theorem c_G_isRegister (l : Launch) (D : va_G) (cs : Nat → ClassId) (ad : Nat → Nat) (hi : mi ad) (I : Mm) (x1 : Int32) : MC l yX4_isRegister wX4_isRegister { frames := 0, cells := 0, slots := 0, locals := 0 } D cs ad [.int x1] I (some (.int (f_G_isRegister x1))) I := by
  refine q_enter (cc := cX4_isRegister) (maxL := 1) (ret := (some .boolean)) (by decide +kernel) rfl (Nat.le_of_ble_eq_true rfl) ?_
  intro p e s m below meth c ls hx hb hr hml hown hts hlocks hK hP hS hl
  have hown : s.vm.findClass RX4 = some m.cls := hown
  have hts : ∀ w ∈ gtbl, w.before _ s = true := fun w h => hts w (List.mem_cons_of_mem _ h)
  have hl : lv_has ls 1 [(0, .int x1)] := hl
  refine lv_iload_n hx hb dX4_isRegister_0 rfl (lv_at hl 0 rfl) ?_
  refine lv_if_lt (tgt := 13) hx hb dX4_isRegister_1 (by decide) (fun c1 => ?_) (fun c1 => ?_)
  · have c1 := c1
    refine lv_iconst (v := 0) hx hb dX4_isRegister_13 (by decide) ?_
    exact q_zretP hx hb hr hlocks dX4_isRegister_14 hP hS rfl (by rw [f_G_isRegister, if_pos c1])
  · have c1 := c1
    refine lv_iload_n hx hb dX4_isRegister_4 rfl (lv_at hl 0 rfl) ?_
    refine lv_iconst (v := 4) hx hb dX4_isRegister_5 (by decide) ?_
    refine lv_icmp_ge (tgt := 13) hx hb dX4_isRegister_6 (by decide) (fun c2 => ?_) (fun c2 => ?_)
    · have c2 := c2
      refine lv_iconst (v := 0) hx hb dX4_isRegister_13 (by decide) ?_
      exact q_zretP hx hb hr hlocks dX4_isRegister_14 hP hS rfl (by rw [f_G_isRegister, if_neg c1, if_pos c2])
    · have c2 := c2
      refine lv_iconst (v := 1) hx hb dX4_isRegister_9 (by decide) ?_
      refine lv_goto (tgt := 14) hx hb dX4_isRegister_10 (by decide) ?_
      exact q_zretP hx hb hr hlocks dX4_isRegister_14 hP hS rfl (by rw [f_G_isRegister, if_neg c1, if_neg c2])
def f_G_isChannel  (x1 x2 : Int32) : Int32 := (if (f_G_isProcess x1) = 0 then 0 else (if (f_G_isProcess x2) = 0 then 0 else (if x1 = x2 then 0 else 1)))
theorem z_G_isChannel  (x1 x2 : Int32) : narrow .boolean (.int (f_G_isChannel x1 x2)) = .int (f_G_isChannel x1 x2) := by
  unfold f_G_isChannel
  (repeat' split) <;> first | (with_reducible exact nbp0) | (with_reducible exact nbp1) | (with_reducible exact z_G_isProcess _)
set_option maxHeartbeats 4000000 in
set_option maxRecDepth 100000 in
theorem c_G_isChannel (l : Launch) (D : va_G) (cs : Nat → ClassId) (ad : Nat → Nat) (hi : mi ad) (I : Mm) (x1 x2 : Int32) : MC l yX4_isChannel wX4_isChannel { frames := 1, cells := 0, slots := 0, locals := 20 } D cs ad [.int x1, .int x2] I (some (.int (f_G_isChannel x1 x2))) I := by
  refine q_enter (cc := cX4_isChannel) (maxL := 2) (ret := (some .boolean)) (by decide +kernel) rfl (Nat.le_of_ble_eq_true rfl) ?_
  intro p e s m below meth c ls hx hb hr hml hown hts hlocks hK hP hS hl
  have hown : s.vm.findClass RX4 = some m.cls := hown
  have hts : ∀ w ∈ gtbl, w.before _ s = true := fun w h => hts w (List.mem_cons_of_mem _ h)
  have hl : lv_has ls 2 [(0, .int x1), (1, .int x2)] := hl
  refine lv_iload_n hx hb dX4_isChannel_0 rfl (lv_at hl 0 rfl) ?_
  refine q_callp (va_runS (As := [.int x1]) (rest := []) ⟨hx, hb, hml, hown, hts⟩ (c_G_isProcess l D cs ad hi I x1) (va_cwS 1 hts (gS k_111 k_112 k_1 k_113) rfl rfl rfl (by decide +kernel) ⟨Nat.le_of_ble_eq_true rfl, Nat.le_of_ble_eq_true rfl⟩) (q_preS hK hP) rfl rfl hl.1 rfl (lv_room (Nat.le_of_ble_eq_true rfl)) dX4_isChannel_1 ⟨Nat.zero_le _, Nat.zero_le _⟩) hS (fun _ h => h) (fun H locs hP hS => ?_)
  refine lv_if_eq (tgt := 23) hx hb dX4_isChannel_4 (by decide) (fun c1 => ?_) (fun c1 => ?_)
  · have c1 := c1
    refine lv_iconst (v := 0) hx hb dX4_isChannel_23 (by decide) ?_
    exact q_zretP hx hb hr hlocks dX4_isChannel_24 hP hS rfl (by rw [f_G_isChannel, if_pos c1])
  · have c1 := c1
    refine lv_iload_n hx hb dX4_isChannel_7 rfl (lv_at hl 1 rfl) ?_
    refine q_callp (va_runS (As := [.int x2]) (rest := []) ⟨hx, hb, hml, hown, hts⟩ (c_G_isProcess l D cs ad hi I x2) (va_cwS 1 hts (gS k_111 k_112 k_1 k_113) rfl rfl rfl (by decide +kernel) ⟨Nat.le_of_ble_eq_true rfl, Nat.le_of_ble_eq_true rfl⟩) (q_preS hK hP) rfl rfl hl.1 rfl (lv_room (Nat.le_of_ble_eq_true rfl)) dX4_isChannel_8 ⟨Nat.zero_le _, Nat.zero_le _⟩) hS (fun _ h => h) (fun H locs hP hS => ?_)
    refine lv_if_eq (tgt := 23) hx hb dX4_isChannel_11 (by decide) (fun c2 => ?_) (fun c2 => ?_)
    · have c2 := c2
      refine lv_iconst (v := 0) hx hb dX4_isChannel_23 (by decide) ?_
      exact q_zretP hx hb hr hlocks dX4_isChannel_24 hP hS rfl (by rw [f_G_isChannel, if_neg c1, if_pos c2])
    · have c2 := c2
      refine lv_iload_n hx hb dX4_isChannel_14 rfl (lv_at hl 0 rfl) ?_
      refine lv_iload_n hx hb dX4_isChannel_15 rfl (lv_at hl 1 rfl) ?_
      refine lv_icmp_eq (tgt := 23) hx hb dX4_isChannel_16 (by decide) (fun c3 => ?_) (fun c3 => ?_)
      · have c3 := c3
        refine lv_iconst (v := 0) hx hb dX4_isChannel_23 (by decide) ?_
        exact q_zretP hx hb hr hlocks dX4_isChannel_24 hP hS rfl (by rw [f_G_isChannel, if_neg c1, if_neg c2, if_pos c3])
      · have c3 := c3
        refine lv_iconst (v := 1) hx hb dX4_isChannel_19 (by decide) ?_
        refine lv_goto (tgt := 24) hx hb dX4_isChannel_20 (by decide) ?_
        exact q_zretP hx hb hr hlocks dX4_isChannel_24 hP hS rfl (by rw [f_G_isChannel, if_neg c1, if_neg c2, if_neg c3])
def f_G_isInstruction  (x1 x2 x3 x4 : Int32) : Int32 := (if x2 = 0 then (f_G_isRegister x3) else (if x2 = 1 then (if (f_G_isRegister x3) = 0 then 0 else (if (f_G_isRegister x4) = 0 then 0 else 1)) else (if x2 = 2 then (if (f_G_isRegister x3) = 0 then 0 else (if (f_G_isRegister x4) = 0 then 0 else 1)) else (if x2 = 3 then (if (f_G_isRegister x3) = 0 then 0 else (if (f_G_isRegister x4) = 0 then 0 else 1)) else (if x2 = 4 then (if x3 < 0 then 0 else (if 16 ≤ x3 then 0 else 1)) else (if x2 = 5 then (if (f_G_isChannel x1 x3) = 0 then 0 else (if (f_G_isRegister x4) = 0 then 0 else 1)) else (if x2 = 6 then (if (f_G_isRegister x3) = 0 then 0 else (if (f_G_isRegister x4) = 0 then 0 else 1)) else (if x2 = 7 then (f_G_isRegister x3) else 0))))))))
theorem z_G_isInstruction  (x1 x2 x3 x4 : Int32) : narrow .boolean (.int (f_G_isInstruction x1 x2 x3 x4)) = .int (f_G_isInstruction x1 x2 x3 x4) := by
  unfold f_G_isInstruction
  (repeat' split) <;> first | (with_reducible exact nbp0) | (with_reducible exact nbp1) | (with_reducible exact z_G_isChannel _ _) | (with_reducible exact z_G_isRegister _)
set_option maxHeartbeats 4000000 in
set_option maxRecDepth 100000 in
theorem c_G_isInstruction (l : Launch) (D : va_G) (cs : Nat → ClassId) (ad : Nat → Nat) (hi : mi ad) (I : Mm) (x1 x2 x3 x4 : Int32) : MC l yX4_isInstruction wX4_isInstruction { frames := 2, cells := 0, slots := 0, locals := 41 } D cs ad [.int x1, .int x2, .int x3, .int x4] I (some (.int (f_G_isInstruction x1 x2 x3 x4))) I := by
  refine q_enter (cc := cX4_isInstruction) (maxL := 4) (ret := (some .boolean)) (by decide +kernel) rfl (Nat.le_of_ble_eq_true rfl) ?_
  intro p e s m below meth c ls hx hb hr hml hown hts hlocks hK hP hS hl
  have hown : s.vm.findClass RX4 = some m.cls := hown
  have hts : ∀ w ∈ gtbl, w.before _ s = true := fun w h => hts w (List.mem_cons_of_mem _ h)
  have hl : lv_has ls 4 [(0, .int x1), (1, .int x2), (2, .int x3), (3, .int x4)] := hl
  refine lv_iload_n hx hb dX4_isInstruction_0 rfl (lv_at hl 1 rfl) ?_
  by_cases c1 : x2 = 0
  · have c1 := c1
    refine lv_tableIn (tgt := 48) (off := 47) hx hb dX4_isInstruction_1 (by rw [c1]; decide) (by rw [c1]; decide) (by rw [c1]; rfl) (by decide) ?_
    refine lv_iload_n hx hb dX4_isInstruction_48 rfl (lv_at hl 2 rfl) ?_
    refine q_callp (va_runS (As := [.int x3]) (rest := []) ⟨hx, hb, hml, hown, hts⟩ (c_G_isRegister l D cs ad hi I x3) (va_cwS 1 hts (gS k_117 k_118 k_1 k_119) rfl rfl rfl (by decide +kernel) ⟨Nat.le_of_ble_eq_true rfl, Nat.le_of_ble_eq_true rfl⟩) (q_preS hK hP) rfl rfl hl.1 rfl (lv_room (Nat.le_of_ble_eq_true rfl)) dX4_isInstruction_49 ⟨Nat.zero_le _, Nat.zero_le _⟩) hS (fun _ h => h) (fun H locs hP hS => ?_)
    exact q_zretP hx hb hr hlocks dX4_isInstruction_52 hP hS (z_G_isRegister x3) (by rw [f_G_isInstruction, if_pos c1])
  · have c1 := c1
    by_cases c2 : x2 = 1
    · have c2 := c2
      refine lv_tableIn (tgt := 53) (off := 52) hx hb dX4_isInstruction_1 (by rw [c2]; decide) (by rw [c2]; decide) (by rw [c2]; rfl) (by decide) ?_
      refine lv_iload_n hx hb dX4_isInstruction_53 rfl (lv_at hl 2 rfl) ?_
      refine q_callp (va_runS (As := [.int x3]) (rest := []) ⟨hx, hb, hml, hown, hts⟩ (c_G_isRegister l D cs ad hi I x3) (va_cwS 1 hts (gS k_117 k_118 k_1 k_119) rfl rfl rfl (by decide +kernel) ⟨Nat.le_of_ble_eq_true rfl, Nat.le_of_ble_eq_true rfl⟩) (q_preS hK hP) rfl rfl hl.1 rfl (lv_room (Nat.le_of_ble_eq_true rfl)) dX4_isInstruction_54 ⟨Nat.zero_le _, Nat.zero_le _⟩) hS (fun _ h => h) (fun H locs hP hS => ?_)
      refine lv_if_eq (tgt := 71) hx hb dX4_isInstruction_57 (by decide) (fun c3 => ?_) (fun c3 => ?_)
      · have c3 := c3
        refine lv_iconst (v := 0) hx hb dX4_isInstruction_71 (by decide) ?_
        exact q_zretP hx hb hr hlocks dX4_isInstruction_72 hP hS rfl (by rw [f_G_isInstruction, if_neg c1, if_pos c2, if_pos c3])
      · have c3 := c3
        refine lv_iload_n hx hb dX4_isInstruction_60 rfl (lv_at hl 3 rfl) ?_
        refine q_callp (va_runS (As := [.int x4]) (rest := []) ⟨hx, hb, hml, hown, hts⟩ (c_G_isRegister l D cs ad hi I x4) (va_cwS 1 hts (gS k_117 k_118 k_1 k_119) rfl rfl rfl (by decide +kernel) ⟨Nat.le_of_ble_eq_true rfl, Nat.le_of_ble_eq_true rfl⟩) (q_preS hK hP) rfl rfl hl.1 rfl (lv_room (Nat.le_of_ble_eq_true rfl)) dX4_isInstruction_61 ⟨Nat.zero_le _, Nat.zero_le _⟩) hS (fun _ h => h) (fun H locs hP hS => ?_)
        refine lv_if_eq (tgt := 71) hx hb dX4_isInstruction_64 (by decide) (fun c4 => ?_) (fun c4 => ?_)
        · have c4 := c4
          refine lv_iconst (v := 0) hx hb dX4_isInstruction_71 (by decide) ?_
          exact q_zretP hx hb hr hlocks dX4_isInstruction_72 hP hS rfl (by rw [f_G_isInstruction, if_neg c1, if_pos c2, if_neg c3, if_pos c4])
        · have c4 := c4
          refine lv_iconst (v := 1) hx hb dX4_isInstruction_67 (by decide) ?_
          refine lv_goto (tgt := 72) hx hb dX4_isInstruction_68 (by decide) ?_
          exact q_zretP hx hb hr hlocks dX4_isInstruction_72 hP hS rfl (by rw [f_G_isInstruction, if_neg c1, if_pos c2, if_neg c3, if_neg c4])
    · have c2 := c2
      by_cases c5 : x2 = 2
      · have c5 := c5
        refine lv_tableIn (tgt := 53) (off := 52) hx hb dX4_isInstruction_1 (by rw [c5]; decide) (by rw [c5]; decide) (by rw [c5]; rfl) (by decide) ?_
        refine lv_iload_n hx hb dX4_isInstruction_53 rfl (lv_at hl 2 rfl) ?_
        refine q_callp (va_runS (As := [.int x3]) (rest := []) ⟨hx, hb, hml, hown, hts⟩ (c_G_isRegister l D cs ad hi I x3) (va_cwS 1 hts (gS k_117 k_118 k_1 k_119) rfl rfl rfl (by decide +kernel) ⟨Nat.le_of_ble_eq_true rfl, Nat.le_of_ble_eq_true rfl⟩) (q_preS hK hP) rfl rfl hl.1 rfl (lv_room (Nat.le_of_ble_eq_true rfl)) dX4_isInstruction_54 ⟨Nat.zero_le _, Nat.zero_le _⟩) hS (fun _ h => h) (fun H locs hP hS => ?_)
        refine lv_if_eq (tgt := 71) hx hb dX4_isInstruction_57 (by decide) (fun c6 => ?_) (fun c6 => ?_)
        · have c6 := c6
          refine lv_iconst (v := 0) hx hb dX4_isInstruction_71 (by decide) ?_
          exact q_zretP hx hb hr hlocks dX4_isInstruction_72 hP hS rfl (by rw [f_G_isInstruction, if_neg c1, if_neg c2, if_pos c5, if_pos c6])
        · have c6 := c6
          refine lv_iload_n hx hb dX4_isInstruction_60 rfl (lv_at hl 3 rfl) ?_
          refine q_callp (va_runS (As := [.int x4]) (rest := []) ⟨hx, hb, hml, hown, hts⟩ (c_G_isRegister l D cs ad hi I x4) (va_cwS 1 hts (gS k_117 k_118 k_1 k_119) rfl rfl rfl (by decide +kernel) ⟨Nat.le_of_ble_eq_true rfl, Nat.le_of_ble_eq_true rfl⟩) (q_preS hK hP) rfl rfl hl.1 rfl (lv_room (Nat.le_of_ble_eq_true rfl)) dX4_isInstruction_61 ⟨Nat.zero_le _, Nat.zero_le _⟩) hS (fun _ h => h) (fun H locs hP hS => ?_)
          refine lv_if_eq (tgt := 71) hx hb dX4_isInstruction_64 (by decide) (fun c7 => ?_) (fun c7 => ?_)
          · have c7 := c7
            refine lv_iconst (v := 0) hx hb dX4_isInstruction_71 (by decide) ?_
            exact q_zretP hx hb hr hlocks dX4_isInstruction_72 hP hS rfl (by rw [f_G_isInstruction, if_neg c1, if_neg c2, if_pos c5, if_neg c6, if_pos c7])
          · have c7 := c7
            refine lv_iconst (v := 1) hx hb dX4_isInstruction_67 (by decide) ?_
            refine lv_goto (tgt := 72) hx hb dX4_isInstruction_68 (by decide) ?_
            exact q_zretP hx hb hr hlocks dX4_isInstruction_72 hP hS rfl (by rw [f_G_isInstruction, if_neg c1, if_neg c2, if_pos c5, if_neg c6, if_neg c7])
      · have c5 := c5
        by_cases c8 : x2 = 3
        · have c8 := c8
          refine lv_tableIn (tgt := 53) (off := 52) hx hb dX4_isInstruction_1 (by rw [c8]; decide) (by rw [c8]; decide) (by rw [c8]; rfl) (by decide) ?_
          refine lv_iload_n hx hb dX4_isInstruction_53 rfl (lv_at hl 2 rfl) ?_
          refine q_callp (va_runS (As := [.int x3]) (rest := []) ⟨hx, hb, hml, hown, hts⟩ (c_G_isRegister l D cs ad hi I x3) (va_cwS 1 hts (gS k_117 k_118 k_1 k_119) rfl rfl rfl (by decide +kernel) ⟨Nat.le_of_ble_eq_true rfl, Nat.le_of_ble_eq_true rfl⟩) (q_preS hK hP) rfl rfl hl.1 rfl (lv_room (Nat.le_of_ble_eq_true rfl)) dX4_isInstruction_54 ⟨Nat.zero_le _, Nat.zero_le _⟩) hS (fun _ h => h) (fun H locs hP hS => ?_)
          refine lv_if_eq (tgt := 71) hx hb dX4_isInstruction_57 (by decide) (fun c9 => ?_) (fun c9 => ?_)
          · have c9 := c9
            refine lv_iconst (v := 0) hx hb dX4_isInstruction_71 (by decide) ?_
            exact q_zretP hx hb hr hlocks dX4_isInstruction_72 hP hS rfl (by rw [f_G_isInstruction, if_neg c1, if_neg c2, if_neg c5, if_pos c8, if_pos c9])
          · have c9 := c9
            refine lv_iload_n hx hb dX4_isInstruction_60 rfl (lv_at hl 3 rfl) ?_
            refine q_callp (va_runS (As := [.int x4]) (rest := []) ⟨hx, hb, hml, hown, hts⟩ (c_G_isRegister l D cs ad hi I x4) (va_cwS 1 hts (gS k_117 k_118 k_1 k_119) rfl rfl rfl (by decide +kernel) ⟨Nat.le_of_ble_eq_true rfl, Nat.le_of_ble_eq_true rfl⟩) (q_preS hK hP) rfl rfl hl.1 rfl (lv_room (Nat.le_of_ble_eq_true rfl)) dX4_isInstruction_61 ⟨Nat.zero_le _, Nat.zero_le _⟩) hS (fun _ h => h) (fun H locs hP hS => ?_)
            refine lv_if_eq (tgt := 71) hx hb dX4_isInstruction_64 (by decide) (fun c10 => ?_) (fun c10 => ?_)
            · have c10 := c10
              refine lv_iconst (v := 0) hx hb dX4_isInstruction_71 (by decide) ?_
              exact q_zretP hx hb hr hlocks dX4_isInstruction_72 hP hS rfl (by rw [f_G_isInstruction, if_neg c1, if_neg c2, if_neg c5, if_pos c8, if_neg c9, if_pos c10])
            · have c10 := c10
              refine lv_iconst (v := 1) hx hb dX4_isInstruction_67 (by decide) ?_
              refine lv_goto (tgt := 72) hx hb dX4_isInstruction_68 (by decide) ?_
              exact q_zretP hx hb hr hlocks dX4_isInstruction_72 hP hS rfl (by rw [f_G_isInstruction, if_neg c1, if_neg c2, if_neg c5, if_pos c8, if_neg c9, if_neg c10])
        · have c8 := c8
          by_cases c11 : x2 = 4
          · have c11 := c11
            refine lv_tableIn (tgt := 73) (off := 72) hx hb dX4_isInstruction_1 (by rw [c11]; decide) (by rw [c11]; decide) (by rw [c11]; rfl) (by decide) ?_
            refine lv_iload_n hx hb dX4_isInstruction_73 rfl (lv_at hl 2 rfl) ?_
            refine lv_if_lt (tgt := 87) hx hb dX4_isInstruction_74 (by decide) (fun c12 => ?_) (fun c12 => ?_)
            · have c12 := c12
              refine lv_iconst (v := 0) hx hb dX4_isInstruction_87 (by decide) ?_
              exact q_zretP hx hb hr hlocks dX4_isInstruction_88 hP hS rfl (by rw [f_G_isInstruction, if_neg c1, if_neg c2, if_neg c5, if_neg c8, if_pos c11, if_pos c12])
            · have c12 := c12
              refine lv_iload_n hx hb dX4_isInstruction_77 rfl (lv_at hl 2 rfl) ?_
              refine lv_bipush (v := 16) hx hb dX4_isInstruction_78 (by decide) ?_
              refine lv_icmp_ge (tgt := 87) hx hb dX4_isInstruction_80 (by decide) (fun c13 => ?_) (fun c13 => ?_)
              · have c13 := c13
                refine lv_iconst (v := 0) hx hb dX4_isInstruction_87 (by decide) ?_
                exact q_zretP hx hb hr hlocks dX4_isInstruction_88 hP hS rfl (by rw [f_G_isInstruction, if_neg c1, if_neg c2, if_neg c5, if_neg c8, if_pos c11, if_neg c12, if_pos c13])
              · have c13 := c13
                refine lv_iconst (v := 1) hx hb dX4_isInstruction_83 (by decide) ?_
                refine lv_goto (tgt := 88) hx hb dX4_isInstruction_84 (by decide) ?_
                exact q_zretP hx hb hr hlocks dX4_isInstruction_88 hP hS rfl (by rw [f_G_isInstruction, if_neg c1, if_neg c2, if_neg c5, if_neg c8, if_pos c11, if_neg c12, if_neg c13])
          · have c11 := c11
            by_cases c14 : x2 = 5
            · have c14 := c14
              refine lv_tableIn (tgt := 89) (off := 88) hx hb dX4_isInstruction_1 (by rw [c14]; decide) (by rw [c14]; decide) (by rw [c14]; rfl) (by decide) ?_
              refine lv_iload_n hx hb dX4_isInstruction_89 rfl (lv_at hl 0 rfl) ?_
              refine lv_iload_n hx hb dX4_isInstruction_90 rfl (lv_at hl 2 rfl) ?_
              refine q_callp (va_runS (As := [.int x1, .int x3]) (rest := []) ⟨hx, hb, hml, hown, hts⟩ (c_G_isChannel l D cs ad hi I x1 x3) (va_cwS 2 hts (gS k_120 k_121 k_1 k_122) rfl rfl rfl (by decide +kernel) ⟨Nat.le_of_ble_eq_true rfl, Nat.le_of_ble_eq_true rfl⟩) (q_preS hK hP) rfl rfl hl.1 rfl (lv_room (Nat.le_of_ble_eq_true rfl)) dX4_isInstruction_91 ⟨Nat.zero_le _, Nat.zero_le _⟩) hS (fun _ h => h) (fun H locs hP hS => ?_)
              refine lv_if_eq (tgt := 108) hx hb dX4_isInstruction_94 (by decide) (fun c15 => ?_) (fun c15 => ?_)
              · have c15 := c15
                refine lv_iconst (v := 0) hx hb dX4_isInstruction_108 (by decide) ?_
                exact q_zretP hx hb hr hlocks dX4_isInstruction_109 hP hS rfl (by rw [f_G_isInstruction, if_neg c1, if_neg c2, if_neg c5, if_neg c8, if_neg c11, if_pos c14, if_pos c15])
              · have c15 := c15
                refine lv_iload_n hx hb dX4_isInstruction_97 rfl (lv_at hl 3 rfl) ?_
                refine q_callp (va_runS (As := [.int x4]) (rest := []) ⟨hx, hb, hml, hown, hts⟩ (c_G_isRegister l D cs ad hi I x4) (va_cwS 1 hts (gS k_117 k_118 k_1 k_119) rfl rfl rfl (by decide +kernel) ⟨Nat.le_of_ble_eq_true rfl, Nat.le_of_ble_eq_true rfl⟩) (q_preS hK hP) rfl rfl hl.1 rfl (lv_room (Nat.le_of_ble_eq_true rfl)) dX4_isInstruction_98 ⟨Nat.zero_le _, Nat.zero_le _⟩) hS (fun _ h => h) (fun H locs hP hS => ?_)
                refine lv_if_eq (tgt := 108) hx hb dX4_isInstruction_101 (by decide) (fun c16 => ?_) (fun c16 => ?_)
                · have c16 := c16
                  refine lv_iconst (v := 0) hx hb dX4_isInstruction_108 (by decide) ?_
                  exact q_zretP hx hb hr hlocks dX4_isInstruction_109 hP hS rfl (by rw [f_G_isInstruction, if_neg c1, if_neg c2, if_neg c5, if_neg c8, if_neg c11, if_pos c14, if_neg c15, if_pos c16])
                · have c16 := c16
                  refine lv_iconst (v := 1) hx hb dX4_isInstruction_104 (by decide) ?_
                  refine lv_goto (tgt := 109) hx hb dX4_isInstruction_105 (by decide) ?_
                  exact q_zretP hx hb hr hlocks dX4_isInstruction_109 hP hS rfl (by rw [f_G_isInstruction, if_neg c1, if_neg c2, if_neg c5, if_neg c8, if_neg c11, if_pos c14, if_neg c15, if_neg c16])
            · have c14 := c14
              by_cases c17 : x2 = 6
              · have c17 := c17
                refine lv_tableIn (tgt := 53) (off := 52) hx hb dX4_isInstruction_1 (by rw [c17]; decide) (by rw [c17]; decide) (by rw [c17]; rfl) (by decide) ?_
                refine lv_iload_n hx hb dX4_isInstruction_53 rfl (lv_at hl 2 rfl) ?_
                refine q_callp (va_runS (As := [.int x3]) (rest := []) ⟨hx, hb, hml, hown, hts⟩ (c_G_isRegister l D cs ad hi I x3) (va_cwS 1 hts (gS k_117 k_118 k_1 k_119) rfl rfl rfl (by decide +kernel) ⟨Nat.le_of_ble_eq_true rfl, Nat.le_of_ble_eq_true rfl⟩) (q_preS hK hP) rfl rfl hl.1 rfl (lv_room (Nat.le_of_ble_eq_true rfl)) dX4_isInstruction_54 ⟨Nat.zero_le _, Nat.zero_le _⟩) hS (fun _ h => h) (fun H locs hP hS => ?_)
                refine lv_if_eq (tgt := 71) hx hb dX4_isInstruction_57 (by decide) (fun c18 => ?_) (fun c18 => ?_)
                · have c18 := c18
                  refine lv_iconst (v := 0) hx hb dX4_isInstruction_71 (by decide) ?_
                  exact q_zretP hx hb hr hlocks dX4_isInstruction_72 hP hS rfl (by rw [f_G_isInstruction, if_neg c1, if_neg c2, if_neg c5, if_neg c8, if_neg c11, if_neg c14, if_pos c17, if_pos c18])
                · have c18 := c18
                  refine lv_iload_n hx hb dX4_isInstruction_60 rfl (lv_at hl 3 rfl) ?_
                  refine q_callp (va_runS (As := [.int x4]) (rest := []) ⟨hx, hb, hml, hown, hts⟩ (c_G_isRegister l D cs ad hi I x4) (va_cwS 1 hts (gS k_117 k_118 k_1 k_119) rfl rfl rfl (by decide +kernel) ⟨Nat.le_of_ble_eq_true rfl, Nat.le_of_ble_eq_true rfl⟩) (q_preS hK hP) rfl rfl hl.1 rfl (lv_room (Nat.le_of_ble_eq_true rfl)) dX4_isInstruction_61 ⟨Nat.zero_le _, Nat.zero_le _⟩) hS (fun _ h => h) (fun H locs hP hS => ?_)
                  refine lv_if_eq (tgt := 71) hx hb dX4_isInstruction_64 (by decide) (fun c19 => ?_) (fun c19 => ?_)
                  · have c19 := c19
                    refine lv_iconst (v := 0) hx hb dX4_isInstruction_71 (by decide) ?_
                    exact q_zretP hx hb hr hlocks dX4_isInstruction_72 hP hS rfl (by rw [f_G_isInstruction, if_neg c1, if_neg c2, if_neg c5, if_neg c8, if_neg c11, if_neg c14, if_pos c17, if_neg c18, if_pos c19])
                  · have c19 := c19
                    refine lv_iconst (v := 1) hx hb dX4_isInstruction_67 (by decide) ?_
                    refine lv_goto (tgt := 72) hx hb dX4_isInstruction_68 (by decide) ?_
                    exact q_zretP hx hb hr hlocks dX4_isInstruction_72 hP hS rfl (by rw [f_G_isInstruction, if_neg c1, if_neg c2, if_neg c5, if_neg c8, if_neg c11, if_neg c14, if_pos c17, if_neg c18, if_neg c19])
              · have c17 := c17
                by_cases c20 : x2 = 7
                · have c20 := c20
                  refine lv_tableIn (tgt := 48) (off := 47) hx hb dX4_isInstruction_1 (by rw [c20]; decide) (by rw [c20]; decide) (by rw [c20]; rfl) (by decide) ?_
                  refine lv_iload_n hx hb dX4_isInstruction_48 rfl (lv_at hl 2 rfl) ?_
                  refine q_callp (va_runS (As := [.int x3]) (rest := []) ⟨hx, hb, hml, hown, hts⟩ (c_G_isRegister l D cs ad hi I x3) (va_cwS 1 hts (gS k_117 k_118 k_1 k_119) rfl rfl rfl (by decide +kernel) ⟨Nat.le_of_ble_eq_true rfl, Nat.le_of_ble_eq_true rfl⟩) (q_preS hK hP) rfl rfl hl.1 rfl (lv_room (Nat.le_of_ble_eq_true rfl)) dX4_isInstruction_49 ⟨Nat.zero_le _, Nat.zero_le _⟩) hS (fun _ h => h) (fun H locs hP hS => ?_)
                  exact q_zretP hx hb hr hlocks dX4_isInstruction_52 hP hS (z_G_isRegister x3) (by rw [f_G_isInstruction, if_neg c1, if_neg c2, if_neg c5, if_neg c8, if_neg c11, if_neg c14, if_neg c17, if_pos c20])
                · have c20 := c20
                  refine lv_tableOut (tgt := 110) hx hb dX4_isInstruction_1 (tb_out0_7 c1 c2 c5 c8 c11 c14 c17 c20) (by decide) ?_
                  refine lv_iconst (v := 0) hx hb dX4_isInstruction_110 (by decide) ?_
                  exact q_zretP hx hb hr hlocks dX4_isInstruction_111 hP hS rfl (by rw [f_G_isInstruction, if_neg c1, if_neg c2, if_neg c5, if_neg c8, if_neg c11, if_neg c14, if_neg c17, if_neg c20])
def f_G_outputNumber  (x1 : Int32) : Int32 := (x1 + 1)
set_option maxHeartbeats 4000000 in
set_option maxRecDepth 100000 in
theorem c_G_outputNumber (l : Launch) (D : va_G) (cs : Nat → ClassId) (ad : Nat → Nat) (hi : mi ad) (I : Mm) (x1 : Int32) : MC l yX4_outputNumber wX4_outputNumber { frames := 0, cells := 0, slots := 0, locals := 0 } D cs ad [.int x1] I (some (.int (f_G_outputNumber x1))) I := by
  refine q_enter (cc := cX4_outputNumber) (maxL := 1) (ret := (some .int)) (by decide +kernel) rfl (Nat.le_of_ble_eq_true rfl) ?_
  intro p e s m below meth c ls hx hb hr hml hown hts hlocks hK hP hS hl
  have hown : s.vm.findClass RX4 = some m.cls := hown
  have hts : ∀ w ∈ gtbl, w.before _ s = true := fun w h => hts w (List.mem_cons_of_mem _ h)
  have hl : lv_has ls 1 [(0, .int x1)] := hl
  refine lv_iload_n hx hb dX4_outputNumber_0 rfl (lv_at hl 0 rfl) ?_
  refine lv_iconst (v := 1) hx hb dX4_outputNumber_1 (by decide) ?_
  refine lv_iadd hx hb dX4_outputNumber_2 ?_
  exact q_iretP hx hb hr hlocks dX4_outputNumber_3 hP hS rfl
def ok_G_channelBetween  (x1 x2 : Int32) : Prop := vp_in ((x1 * 3) + x2) 9
set_option maxHeartbeats 4000000 in
set_option maxRecDepth 100000 in
theorem c_G_channelBetween (l : Launch) (D : va_G) (cs : Nat → ClassId) (ad : Nat → Nat) (hi : mi ad) (I : Mm) (x1 x2 : Int32) (ok : ok_G_channelBetween x1 x2) : MC l yX4_channelBetween wX4_channelBetween { frames := 0, cells := 0, slots := 0, locals := 0 } D cs ad [.ref (ad 0), .int x1, .int x2] I (some (.ref (ad (Cb ((x1 * 3) + x2))))) I := by
  unfold ok_G_channelBetween at ok
  refine q_enter (cc := cX4_channelBetween) (maxL := 3) (ret := (some (.object "ReplayGroup$NumberedRow"))) (by decide +kernel) rfl (Nat.le_of_ble_eq_true rfl) ?_
  intro p e s m below meth c ls hx hb hr hml hown hts hlocks hK hP hS hl
  have hown : s.vm.findClass RX4 = some m.cls := hown
  have hts : ∀ w ∈ gtbl, w.before _ s = true := fun w h => hts w (List.mem_cons_of_mem _ h)
  have hl : lv_has ls 3 [(0, .ref (ad 0)), (1, .int x1), (2, .int x2)] := hl
  refine lv_aload_n hx hb dX4_channelBetween_0 rfl (lv_at hl 0 rfl) ?_
  refine va_get (D := D) (ci := 4) (v := .ref (ad 44)) (C := RX4) (T := TX4) (N := 3) hx hb hts inX4 hown hK hP 0 (mq_G isO_0) rfl 1 (by decide) (hts _ k_102) (fun _ h9 => h9) rfl dX4_channelBetween_1 ?_
  refine lv_iload_n hx hb dX4_channelBetween_4 rfl (lv_at hl 1 rfl) ?_
  refine lv_iconst (v := 3) hx hb dX4_channelBetween_5 (by decide) ?_
  refine lv_imul hx hb dX4_channelBetween_6 ?_
  refine lv_iload_n hx hb dX4_channelBetween_7 rfl (lv_at hl 2 rfl) ?_
  refine lv_iadd hx hb dX4_channelBetween_8 ?_
  have g1 := ok
  refine q_ldC hx hb hK hP g1 dX4_channelBetween_9 ?_
  exact q_aret hx hb hr (Or.inl ⟨_, rfl⟩) hlocks dX4_channelBetween_10 hP hS rfl

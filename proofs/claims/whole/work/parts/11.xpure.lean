def f_X_isProcess  (x1 : Int32) : Int32 := (if x1 < 0 then 0 else (if 3 ≤ x1 then 0 else 1))
theorem z_X_isProcess  (x1 : Int32) : narrow .boolean (.int (f_X_isProcess x1)) = .int (f_X_isProcess x1) := by
  unfold f_X_isProcess
  (repeat' split) <;> first | (with_reducible exact nbp0) | (with_reducible exact nbp1)
set_option maxHeartbeats 4000000 in
set_option maxRecDepth 100000 in
theorem c_X_isProcess (l : Launch) (D : va_G) (cs : Nat → ClassId) (ad : Nat → Nat) (hi : mi ad) (I : Mm) (x1 : Int32) : MC l yX5_isProcess wX5_isProcess { frames := 0, cells := 0, slots := 0, locals := 0 } D cs ad [.int x1] I (some (.int (f_X_isProcess x1))) I := by
  refine q_enter (cc := cX5_isProcess) (maxL := 1) (ret := (some .boolean)) (by decide +kernel) rfl (Nat.le_of_ble_eq_true rfl) ?_
  intro p e s m below meth c ls hx hb hr hml hown hts hlocks hK hP hS hl
  have hown : s.vm.findClass RX5 = some m.cls := hown
  have hts : ∀ w ∈ gtbl, w.before _ s = true := fun w h => hts w (List.mem_cons_of_mem _ h)
  have hl : lv_has ls 1 [(0, .int x1)] := hl
  refine lv_iload_n hx hb dX5_isProcess_0 rfl (lv_at hl 0 rfl) ?_
  refine lv_if_lt (tgt := 13) hx hb dX5_isProcess_1 (by decide) (fun c1 => ?_) (fun c1 => ?_)
  · have c1 := c1
    refine lv_iconst (v := 0) hx hb dX5_isProcess_13 (by decide) ?_
    exact q_zretP hx hb hr hlocks dX5_isProcess_14 hP hS rfl (by rw [f_X_isProcess, if_pos c1])
  · have c1 := c1
    refine lv_iload_n hx hb dX5_isProcess_4 rfl (lv_at hl 0 rfl) ?_
    refine lv_iconst (v := 3) hx hb dX5_isProcess_5 (by decide) ?_
    refine lv_icmp_ge (tgt := 13) hx hb dX5_isProcess_6 (by decide) (fun c2 => ?_) (fun c2 => ?_)
    · have c2 := c2
      refine lv_iconst (v := 0) hx hb dX5_isProcess_13 (by decide) ?_
      exact q_zretP hx hb hr hlocks dX5_isProcess_14 hP hS rfl (by rw [f_X_isProcess, if_neg c1, if_pos c2])
    · have c2 := c2
      refine lv_iconst (v := 1) hx hb dX5_isProcess_9 (by decide) ?_
      refine lv_goto (tgt := 14) hx hb dX5_isProcess_10 (by decide) ?_
      exact q_zretP hx hb hr hlocks dX5_isProcess_14 hP hS rfl (by rw [f_X_isProcess, if_neg c1, if_neg c2])
def f_X_isChannel  (x1 x2 : Int32) : Int32 := (if (f_X_isProcess x1) = 0 then 0 else (if (f_X_isProcess x2) = 0 then 0 else (if x1 = x2 then 0 else 1)))
theorem z_X_isChannel  (x1 x2 : Int32) : narrow .boolean (.int (f_X_isChannel x1 x2)) = .int (f_X_isChannel x1 x2) := by
  unfold f_X_isChannel
  (repeat' split) <;> first | (with_reducible exact nbp0) | (with_reducible exact nbp1) | (with_reducible exact z_X_isProcess _)
set_option maxHeartbeats 4000000 in
set_option maxRecDepth 100000 in
theorem c_X_isChannel (l : Launch) (D : va_G) (cs : Nat → ClassId) (ad : Nat → Nat) (hi : mi ad) (I : Mm) (x1 x2 : Int32) : MC l yX5_isChannel wX5_isChannel { frames := 1, cells := 0, slots := 0, locals := 20 } D cs ad [.int x1, .int x2] I (some (.int (f_X_isChannel x1 x2))) I := by
  refine q_enter (cc := cX5_isChannel) (maxL := 2) (ret := (some .boolean)) (by decide +kernel) rfl (Nat.le_of_ble_eq_true rfl) ?_
  intro p e s m below meth c ls hx hb hr hml hown hts hlocks hK hP hS hl
  have hown : s.vm.findClass RX5 = some m.cls := hown
  have hts : ∀ w ∈ gtbl, w.before _ s = true := fun w h => hts w (List.mem_cons_of_mem _ h)
  have hl : lv_has ls 2 [(0, .int x1), (1, .int x2)] := hl
  refine lv_iload_n hx hb dX5_isChannel_0 rfl (lv_at hl 0 rfl) ?_
  refine q_callp (va_runS (As := [.int x1]) (rest := []) ⟨hx, hb, hml, hown, hts⟩ (c_X_isProcess l D cs ad hi I x1) (va_cwS 1 hts (gS k_332 k_333 k_6 k_334) rfl rfl rfl (by decide +kernel) ⟨Nat.le_of_ble_eq_true rfl, Nat.le_of_ble_eq_true rfl⟩) (q_preS hK hP) rfl rfl hl.1 rfl (lv_room (Nat.le_of_ble_eq_true rfl)) dX5_isChannel_1 ⟨Nat.zero_le _, Nat.zero_le _⟩) hS (fun _ h => h) (fun H locs hP hS => ?_)
  refine lv_if_eq (tgt := 23) hx hb dX5_isChannel_4 (by decide) (fun c1 => ?_) (fun c1 => ?_)
  · have c1 := c1
    refine lv_iconst (v := 0) hx hb dX5_isChannel_23 (by decide) ?_
    exact q_zretP hx hb hr hlocks dX5_isChannel_24 hP hS rfl (by rw [f_X_isChannel, if_pos c1])
  · have c1 := c1
    refine lv_iload_n hx hb dX5_isChannel_7 rfl (lv_at hl 1 rfl) ?_
    refine q_callp (va_runS (As := [.int x2]) (rest := []) ⟨hx, hb, hml, hown, hts⟩ (c_X_isProcess l D cs ad hi I x2) (va_cwS 1 hts (gS k_332 k_333 k_6 k_334) rfl rfl rfl (by decide +kernel) ⟨Nat.le_of_ble_eq_true rfl, Nat.le_of_ble_eq_true rfl⟩) (q_preS hK hP) rfl rfl hl.1 rfl (lv_room (Nat.le_of_ble_eq_true rfl)) dX5_isChannel_8 ⟨Nat.zero_le _, Nat.zero_le _⟩) hS (fun _ h => h) (fun H locs hP hS => ?_)
    refine lv_if_eq (tgt := 23) hx hb dX5_isChannel_11 (by decide) (fun c2 => ?_) (fun c2 => ?_)
    · have c2 := c2
      refine lv_iconst (v := 0) hx hb dX5_isChannel_23 (by decide) ?_
      exact q_zretP hx hb hr hlocks dX5_isChannel_24 hP hS rfl (by rw [f_X_isChannel, if_neg c1, if_pos c2])
    · have c2 := c2
      refine lv_iload_n hx hb dX5_isChannel_14 rfl (lv_at hl 0 rfl) ?_
      refine lv_iload_n hx hb dX5_isChannel_15 rfl (lv_at hl 1 rfl) ?_
      refine lv_icmp_eq (tgt := 23) hx hb dX5_isChannel_16 (by decide) (fun c3 => ?_) (fun c3 => ?_)
      · have c3 := c3
        refine lv_iconst (v := 0) hx hb dX5_isChannel_23 (by decide) ?_
        exact q_zretP hx hb hr hlocks dX5_isChannel_24 hP hS rfl (by rw [f_X_isChannel, if_neg c1, if_neg c2, if_pos c3])
      · have c3 := c3
        refine lv_iconst (v := 1) hx hb dX5_isChannel_19 (by decide) ?_
        refine lv_goto (tgt := 24) hx hb dX5_isChannel_20 (by decide) ?_
        exact q_zretP hx hb hr hlocks dX5_isChannel_24 hP hS rfl (by rw [f_X_isChannel, if_neg c1, if_neg c2, if_neg c3])
def f_X_isRegister  (x1 : Int32) : Int32 := (if x1 < 0 then 0 else (if 4 ≤ x1 then 0 else 1))
theorem z_X_isRegister  (x1 : Int32) : narrow .boolean (.int (f_X_isRegister x1)) = .int (f_X_isRegister x1) := by
  unfold f_X_isRegister
  (repeat' split) <;> first | (with_reducible exact nbp0) | (with_reducible exact nbp1)
set_option maxHeartbeats 4000000 in
set_option maxRecDepth 100000 in
theorem c_X_isRegister (l : Launch) (D : va_G) (cs : Nat → ClassId) (ad : Nat → Nat) (hi : mi ad) (I : Mm) (x1 : Int32) : MC l yX5_isRegister wX5_isRegister { frames := 0, cells := 0, slots := 0, locals := 0 } D cs ad [.int x1] I (some (.int (f_X_isRegister x1))) I := by
  refine q_enter (cc := cX5_isRegister) (maxL := 1) (ret := (some .boolean)) (by decide +kernel) rfl (Nat.le_of_ble_eq_true rfl) ?_
  intro p e s m below meth c ls hx hb hr hml hown hts hlocks hK hP hS hl
  have hown : s.vm.findClass RX5 = some m.cls := hown
  have hts : ∀ w ∈ gtbl, w.before _ s = true := fun w h => hts w (List.mem_cons_of_mem _ h)
  have hl : lv_has ls 1 [(0, .int x1)] := hl
  refine lv_iload_n hx hb dX5_isRegister_0 rfl (lv_at hl 0 rfl) ?_
  refine lv_if_lt (tgt := 13) hx hb dX5_isRegister_1 (by decide) (fun c1 => ?_) (fun c1 => ?_)
  · have c1 := c1
    refine lv_iconst (v := 0) hx hb dX5_isRegister_13 (by decide) ?_
    exact q_zretP hx hb hr hlocks dX5_isRegister_14 hP hS rfl (by rw [f_X_isRegister, if_pos c1])
  · have c1 := c1
    refine lv_iload_n hx hb dX5_isRegister_4 rfl (lv_at hl 0 rfl) ?_
    refine lv_iconst (v := 4) hx hb dX5_isRegister_5 (by decide) ?_
    refine lv_icmp_ge (tgt := 13) hx hb dX5_isRegister_6 (by decide) (fun c2 => ?_) (fun c2 => ?_)
    · have c2 := c2
      refine lv_iconst (v := 0) hx hb dX5_isRegister_13 (by decide) ?_
      exact q_zretP hx hb hr hlocks dX5_isRegister_14 hP hS rfl (by rw [f_X_isRegister, if_neg c1, if_pos c2])
    · have c2 := c2
      refine lv_iconst (v := 1) hx hb dX5_isRegister_9 (by decide) ?_
      refine lv_goto (tgt := 14) hx hb dX5_isRegister_10 (by decide) ?_
      exact q_zretP hx hb hr hlocks dX5_isRegister_14 hP hS rfl (by rw [f_X_isRegister, if_neg c1, if_neg c2])
def f_X_usesB  (x1 : Int32) : Int32 := (if x1 = 1 then 1 else (if x1 = 2 then 1 else (if x1 = 3 then 1 else (if x1 = 5 then 1 else (if x1 = 6 then 1 else 0)))))
theorem z_X_usesB  (x1 : Int32) : narrow .boolean (.int (f_X_usesB x1)) = .int (f_X_usesB x1) := by
  unfold f_X_usesB
  (repeat' split) <;> first | (with_reducible exact nbp0) | (with_reducible exact nbp1)
set_option maxHeartbeats 4000000 in
set_option maxRecDepth 100000 in
theorem c_X_usesB (l : Launch) (D : va_G) (cs : Nat → ClassId) (ad : Nat → Nat) (hi : mi ad) (I : Mm) (x1 : Int32) : MC l yX5_usesB wX5_usesB { frames := 0, cells := 0, slots := 0, locals := 0 } D cs ad [.int x1] I (some (.int (f_X_usesB x1))) I := by
  refine q_enter (cc := cX5_usesB) (maxL := 1) (ret := (some .boolean)) (by decide +kernel) rfl (Nat.le_of_ble_eq_true rfl) ?_
  intro p e s m below meth c ls hx hb hr hml hown hts hlocks hK hP hS hl
  have hown : s.vm.findClass RX5 = some m.cls := hown
  have hts : ∀ w ∈ gtbl, w.before _ s = true := fun w h => hts w (List.mem_cons_of_mem _ h)
  have hl : lv_has ls 1 [(0, .int x1)] := hl
  refine lv_iload_n hx hb dX5_usesB_0 rfl (lv_at hl 0 rfl) ?_
  refine lv_iconst (v := 1) hx hb dX5_usesB_1 (by decide) ?_
  refine lv_icmp_eq (tgt := 26) hx hb dX5_usesB_2 (by decide) (fun c1 => ?_) (fun c1 => ?_)
  · have c1 := c1
    refine lv_iconst (v := 1) hx hb dX5_usesB_26 (by decide) ?_
    refine lv_goto (tgt := 31) hx hb dX5_usesB_27 (by decide) ?_
    exact q_zretP hx hb hr hlocks dX5_usesB_31 hP hS rfl (by rw [f_X_usesB, if_pos c1])
  · have c1 := c1
    refine lv_iload_n hx hb dX5_usesB_5 rfl (lv_at hl 0 rfl) ?_
    refine lv_iconst (v := 2) hx hb dX5_usesB_6 (by decide) ?_
    refine lv_icmp_eq (tgt := 26) hx hb dX5_usesB_7 (by decide) (fun c2 => ?_) (fun c2 => ?_)
    · have c2 := c2
      refine lv_iconst (v := 1) hx hb dX5_usesB_26 (by decide) ?_
      refine lv_goto (tgt := 31) hx hb dX5_usesB_27 (by decide) ?_
      exact q_zretP hx hb hr hlocks dX5_usesB_31 hP hS rfl (by rw [f_X_usesB, if_neg c1, if_pos c2])
    · have c2 := c2
      refine lv_iload_n hx hb dX5_usesB_10 rfl (lv_at hl 0 rfl) ?_
      refine lv_iconst (v := 3) hx hb dX5_usesB_11 (by decide) ?_
      refine lv_icmp_eq (tgt := 26) hx hb dX5_usesB_12 (by decide) (fun c3 => ?_) (fun c3 => ?_)
      · have c3 := c3
        refine lv_iconst (v := 1) hx hb dX5_usesB_26 (by decide) ?_
        refine lv_goto (tgt := 31) hx hb dX5_usesB_27 (by decide) ?_
        exact q_zretP hx hb hr hlocks dX5_usesB_31 hP hS rfl (by rw [f_X_usesB, if_neg c1, if_neg c2, if_pos c3])
      · have c3 := c3
        refine lv_iload_n hx hb dX5_usesB_15 rfl (lv_at hl 0 rfl) ?_
        refine lv_iconst (v := 5) hx hb dX5_usesB_16 (by decide) ?_
        refine lv_icmp_eq (tgt := 26) hx hb dX5_usesB_17 (by decide) (fun c4 => ?_) (fun c4 => ?_)
        · have c4 := c4
          refine lv_iconst (v := 1) hx hb dX5_usesB_26 (by decide) ?_
          refine lv_goto (tgt := 31) hx hb dX5_usesB_27 (by decide) ?_
          exact q_zretP hx hb hr hlocks dX5_usesB_31 hP hS rfl (by rw [f_X_usesB, if_neg c1, if_neg c2, if_neg c3, if_pos c4])
        · have c4 := c4
          refine lv_iload_n hx hb dX5_usesB_20 rfl (lv_at hl 0 rfl) ?_
          refine lv_bipush (v := 6) hx hb dX5_usesB_21 (by decide) ?_
          refine lv_icmp_ne (tgt := 30) hx hb dX5_usesB_23 (by decide) (fun c5 => ?_) (fun c5 => ?_)
          · have c5 := c5
            refine lv_iconst (v := 0) hx hb dX5_usesB_30 (by decide) ?_
            exact q_zretP hx hb hr hlocks dX5_usesB_31 hP hS rfl (by rw [f_X_usesB, if_neg c1, if_neg c2, if_neg c3, if_neg c4, if_neg c5])
          · have c5 := c5
            refine lv_iconst (v := 1) hx hb dX5_usesB_26 (by decide) ?_
            refine lv_goto (tgt := 31) hx hb dX5_usesB_27 (by decide) ?_
            exact q_zretP hx hb hr hlocks dX5_usesB_31 hP hS rfl (by rw [f_X_usesB, if_neg c1, if_neg c2, if_neg c3, if_neg c4, if_pos c5])

def f_G_register (I : Mm) (x1 x2 : Int32) : Int32 := (if (f_G_isProcess x1) = 0 then 0 else (if (f_G_isRegister x2) = 0 then 0 else (if (I (Mb x1) 0) = 0 then 0 else (I (((Mb x1) + 5) + 1) x2.toNatClampNeg))))
def ok_G_register (I : Mm) (x1 x2 : Int32) : Prop := ((f_G_isProcess x1) = 0 → True) ∧ (¬ (f_G_isProcess x1) = 0 → ((f_G_isRegister x2) = 0 → True) ∧ (¬ (f_G_isRegister x2) = 0 → vp_in x1 3 ∧ (((I (Mb x1) 0) = 0 → True) ∧ (¬ (I (Mb x1) 0) = 0 → vp_in x2 4))))
set_option maxHeartbeats 4000000 in
set_option maxRecDepth 100000 in
theorem c_G_register (l : Launch) (D : va_G) (cs : Nat → ClassId) (ad : Nat → Nat) (hi : mi ad) (I : Mm) (x1 x2 : Int32) (ok : ok_G_register I x1 x2) : MC l yX4_register wX4_register { frames := 1, cells := 0, slots := 0, locals := 20 } D cs ad [.ref (ad 0), .int x1, .int x2] I (some (.int (f_G_register I x1 x2))) I := by
  unfold ok_G_register at ok
  refine q_enter (cc := cX4_register) (maxL := 3) (ret := (some .int)) (by decide +kernel) rfl (Nat.le_of_ble_eq_true rfl) ?_
  intro p e s m below meth c ls hx hb hr hml hown hts hlocks hK hP hS hl
  have hown : s.vm.findClass RX4 = some m.cls := hown
  have hts : ∀ w ∈ gtbl, w.before _ s = true := fun w h => hts w (List.mem_cons_of_mem _ h)
  have hl : lv_has ls 3 [(0, .ref (ad 0)), (1, .int x1), (2, .int x2)] := hl
  refine lv_iload_n hx hb dX4_register_0 rfl (lv_at hl 1 rfl) ?_
  refine q_callp (va_runS (As := [.int x1]) (rest := []) ⟨hx, hb, hml, hown, hts⟩ (c_G_isProcess l D cs ad hi I x1) (va_cwS 1 hts (gS k_111 k_112 k_1 k_113) rfl rfl rfl (by decide +kernel) ⟨Nat.le_of_ble_eq_true rfl, Nat.le_of_ble_eq_true rfl⟩) (q_preS hK hP) rfl rfl hl.1 rfl (lv_room (Nat.le_of_ble_eq_true rfl)) dX4_register_1 ⟨Nat.zero_le _, Nat.zero_le _⟩) hS (fun _ h => h) (fun H locs hP hS => ?_)
  refine lv_if_eq (tgt := 26) hx hb dX4_register_4 (by decide) (fun c1 => ?_) (fun c1 => ?_)
  · have ok := ok.1 c1
    refine lv_iconst (v := 0) hx hb dX4_register_26 (by decide) ?_
    exact q_iretP hx hb hr hlocks dX4_register_27 hP hS (by rw [f_G_register, if_pos c1])
  · have ok := ok.2 c1
    refine lv_iload_n hx hb dX4_register_7 rfl (lv_at hl 2 rfl) ?_
    refine q_callp (va_runS (As := [.int x2]) (rest := []) ⟨hx, hb, hml, hown, hts⟩ (c_G_isRegister l D cs ad hi I x2) (va_cwS 1 hts (gS k_117 k_118 k_1 k_119) rfl rfl rfl (by decide +kernel) ⟨Nat.le_of_ble_eq_true rfl, Nat.le_of_ble_eq_true rfl⟩) (q_preS hK hP) rfl rfl hl.1 rfl (lv_room (Nat.le_of_ble_eq_true rfl)) dX4_register_8 ⟨Nat.zero_le _, Nat.zero_le _⟩) hS (fun _ h => h) (fun H locs hP hS => ?_)
    refine lv_if_eq (tgt := 26) hx hb dX4_register_11 (by decide) (fun c2 => ?_) (fun c2 => ?_)
    · have ok := ok.1 c2
      refine lv_iconst (v := 0) hx hb dX4_register_26 (by decide) ?_
      exact q_iretP hx hb hr hlocks dX4_register_27 hP hS (by rw [f_G_register, if_neg c1, if_pos c2])
    · have ok := ok.2 c2
      refine lv_aload_n hx hb dX4_register_14 rfl (lv_at hl 0 rfl) ?_
      refine va_get (D := D) (ci := 4) (v := .ref (ad 1)) (C := RX4) (T := TX4) (N := 3) hx hb hts inX4 hown hK hP 0 (mq_G isO_0) rfl 0 (by decide) (hts _ k_101) (fun _ h9 => h9) rfl dX4_register_15 ?_
      refine lv_iload_n hx hb dX4_register_18 rfl (lv_at hl 1 rfl) ?_
      have g3 := ok.1
      have ok := ok.2
      refine q_ldM hx hb hK hP g3 dX4_register_19 ?_
      refine va_get (D := D) (ci := 0) (v := .int (I (Mb x1) 0)) (C := RX0) (T := TX0) (N := 8) hx hb hts inX0 hown hK hP (Mb x1) (mq_M (isM_O (isM_in g3))) rfl 4 (by decide) (hts _ k_87) (fun _ h9 => h9) rfl dX4_register_20 ?_
      refine lv_if_ne (tgt := 28) hx hb dX4_register_23 (by decide) (fun c4 => ?_) (fun c4 => ?_)
      · have ok := ok.2 c4
        refine lv_aload_n hx hb dX4_register_28 rfl (lv_at hl 0 rfl) ?_
        refine va_get (D := D) (ci := 4) (v := .ref (ad 1)) (C := RX4) (T := TX4) (N := 3) hx hb hts inX4 hown hK hP 0 (mq_G isO_0) rfl 0 (by decide) (hts _ k_101) (fun _ h9 => h9) rfl dX4_register_29 ?_
        refine lv_iload_n hx hb dX4_register_32 rfl (lv_at hl 1 rfl) ?_
        refine q_ldM hx hb hK hP g3 dX4_register_33 ?_
        refine va_get (D := D) (ci := 0) (v := .ref (ad ((Mb x1) + 5))) (C := RX0) (T := TX0) (N := 8) hx hb hts inX0 hown hK hP (Mb x1) (mq_M (isM_O (isM_in g3))) rfl 1 (by decide) (hts _ k_81) (fun _ h9 => h9) rfl dX4_register_34 ?_
        refine va_get (D := D) (ci := 3) (v := .ref (ad (((Mb x1) + 5) + 1))) (C := RX3) (T := TX3) (N := 6) hx hb hts inX3 hown hK hP ((Mb x1) + 5) (mq_S (isM_C (isM_in g3)).1) rfl 0 (by decide) (hts _ k_45) (fun _ h9 => h9) rfl dX4_register_37 ?_
        refine lv_iload_n hx hb dX4_register_40 rfl (lv_at hl 2 rfl) ?_
        have g5 := ok
        refine va_iald hx hb hK hP (((Mb x1) + 5) + 1) 0 (mq_A (isM_C (isM_in g3)).2.1) rfl g5 dX4_register_41 ?_
        exact q_iretP hx hb hr hlocks dX4_register_42 hP hS (by rw [f_G_register, if_neg c1, if_neg c2, if_neg c4])
      · have ok := ok.1 c4
        refine lv_iconst (v := 0) hx hb dX4_register_26 (by decide) ?_
        exact q_iretP hx hb hr hlocks dX4_register_27 hP hS (by rw [f_G_register, if_neg c1, if_neg c2, if_pos c4])
def f_G_state (I : Mm) (x1 x2 : Int32) : Int32 := (if (f_G_isProcess x1) = 0 then (-1) else (if x2 < 0 then (-1) else (if x2 ≤ 3 then (if (I (Mb x1) 0) = 0 then (-2) else (if x2 = 0 then (I ((Mb x1) + 5) 0) else (if x2 = 1 then (I ((Mb x1) + 5) 1) else (if x2 = 2 then (I ((Mb x1) + 5) 2) else (I ((Mb x1) + 5) 3))))) else (-1))))
def ok_G_state  (x1 x2 : Int32) : Prop := ((f_G_isProcess x1) = 0 → True) ∧ (¬ (f_G_isProcess x1) = 0 → (x2 < 0 → True) ∧ (¬ x2 < 0 → (x2 ≤ 3 → vp_in x1 3) ∧ (¬ x2 ≤ 3 → True)))
set_option maxHeartbeats 4000000 in
set_option maxRecDepth 100000 in
theorem c_G_state (l : Launch) (D : va_G) (cs : Nat → ClassId) (ad : Nat → Nat) (hi : mi ad) (I : Mm) (x1 x2 : Int32) (ok : ok_G_state x1 x2) : MC l yX4_state wX4_state { frames := 1, cells := 0, slots := 0, locals := 20 } D cs ad [.ref (ad 0), .int x1, .int x2] I (some (.int (f_G_state I x1 x2))) I := by
  unfold ok_G_state at ok
  refine q_enter (cc := cX4_state) (maxL := 4) (ret := (some .int)) (by decide +kernel) rfl (Nat.le_of_ble_eq_true rfl) ?_
  intro p e s m below meth c ls hx hb hr hml hown hts hlocks hK hP hS hl
  have hown : s.vm.findClass RX4 = some m.cls := hown
  have hts : ∀ w ∈ gtbl, w.before _ s = true := fun w h => hts w (List.mem_cons_of_mem _ h)
  have hl : lv_has ls 4 [(0, .ref (ad 0)), (1, .int x1), (2, .int x2)] := hl
  refine lv_iload_n hx hb dX4_state_0 rfl (lv_at hl 1 rfl) ?_
  refine q_callp (va_runS (As := [.int x1]) (rest := []) ⟨hx, hb, hml, hown, hts⟩ (c_G_isProcess l D cs ad hi I x1) (va_cwS 1 hts (gS k_111 k_112 k_1 k_113) rfl rfl rfl (by decide +kernel) ⟨Nat.le_of_ble_eq_true rfl, Nat.le_of_ble_eq_true rfl⟩) (q_preS hK hP) rfl rfl hl.1 rfl (lv_room (Nat.le_of_ble_eq_true rfl)) dX4_state_1 ⟨Nat.zero_le _, Nat.zero_le _⟩) hS (fun _ h => h) (fun H locs hP hS => ?_)
  refine lv_if_eq (tgt := 16) hx hb dX4_state_4 (by decide) (fun c1 => ?_) (fun c1 => ?_)
  · have ok := ok.1 c1
    refine lv_iconst (v := (-1)) hx hb dX4_state_16 (by decide) ?_
    exact q_iretP hx hb hr hlocks dX4_state_17 hP hS (by rw [f_G_state, if_pos c1])
  · have ok := ok.2 c1
    refine lv_iload_n hx hb dX4_state_7 rfl (lv_at hl 2 rfl) ?_
    refine lv_if_lt (tgt := 16) hx hb dX4_state_8 (by decide) (fun c2 => ?_) (fun c2 => ?_)
    · have ok := ok.1 c2
      refine lv_iconst (v := (-1)) hx hb dX4_state_16 (by decide) ?_
      exact q_iretP hx hb hr hlocks dX4_state_17 hP hS (by rw [f_G_state, if_neg c1, if_pos c2])
    · have ok := ok.2 c2
      refine lv_iload_n hx hb dX4_state_11 rfl (lv_at hl 2 rfl) ?_
      refine lv_iconst (v := 3) hx hb dX4_state_12 (by decide) ?_
      refine lv_icmp_le (tgt := 18) hx hb dX4_state_13 (by decide) (fun c3 => ?_) (fun c3 => ?_)
      · have ok := ok.1 c3
        refine lv_aload_n hx hb dX4_state_18 rfl (lv_at hl 0 rfl) ?_
        refine va_get (D := D) (ci := 4) (v := .ref (ad 1)) (C := RX4) (T := TX4) (N := 3) hx hb hts inX4 hown hK hP 0 (mq_G isO_0) rfl 0 (by decide) (hts _ k_101) (fun _ h9 => h9) rfl dX4_state_19 ?_
        refine lv_iload_n hx hb dX4_state_22 rfl (lv_at hl 1 rfl) ?_
        have g4 := ok
        refine q_ldM hx hb hK hP g4 dX4_state_23 ?_
        refine va_get (D := D) (ci := 0) (v := .int (I (Mb x1) 0)) (C := RX0) (T := TX0) (N := 8) hx hb hts inX0 hown hK hP (Mb x1) (mq_M (isM_O (isM_in g4))) rfl 4 (by decide) (hts _ k_87) (fun _ h9 => h9) rfl dX4_state_24 ?_
        refine lv_if_ne (tgt := 33) hx hb dX4_state_27 (by decide) (fun c5 => ?_) (fun c5 => ?_)
        · have c5 := c5
          refine lv_aload_n hx hb dX4_state_33 rfl (lv_at hl 0 rfl) ?_
          refine va_get (D := D) (ci := 4) (v := .ref (ad 1)) (C := RX4) (T := TX4) (N := 3) hx hb hts inX4 hown hK hP 0 (mq_G isO_0) rfl 0 (by decide) (hts _ k_101) (fun _ h9 => h9) rfl dX4_state_34 ?_
          refine lv_iload_n hx hb dX4_state_37 rfl (lv_at hl 1 rfl) ?_
          refine q_ldM hx hb hK hP g4 dX4_state_38 ?_
          refine va_get (D := D) (ci := 0) (v := .ref (ad ((Mb x1) + 5))) (C := RX0) (T := TX0) (N := 8) hx hb hts inX0 hown hK hP (Mb x1) (mq_M (isM_O (isM_in g4))) rfl 1 (by decide) (hts _ k_81) (fun _ h9 => h9) rfl dX4_state_39 ?_
          refine lv_astore_n (lv' := [(3, .ref (ad ((Mb x1) + 5))), (0, .ref (ad 0)), (1, .int x1), (2, .int x2)]) hx hb dX4_state_42 rfl hl (by decide) rfl (fun ls hl => ?_)
          refine lv_iload_n hx hb dX4_state_43 rfl (lv_at hl 3 rfl) ?_
          by_cases c6 : x2 = 0
          · have c6 := c6
            refine lv_tableIn (tgt := 72) (off := 28) hx hb dX4_state_44 (by rw [c6]; decide) (by rw [c6]; decide) (by rw [c6]; rfl) (by decide) ?_
            refine lv_aload_n hx hb dX4_state_72 rfl (lv_at hl 0 rfl) ?_
            refine va_get (D := D) (ci := 3) (v := .int (I ((Mb x1) + 5) 0)) (C := RX3) (T := TX3) (N := 6) hx hb hts inX3 hown hK hP ((Mb x1) + 5) (mq_S (isM_C (isM_in g4)).1) rfl 2 (by decide) (hts _ k_49) (fun _ h9 => h9) rfl dX4_state_73 ?_
            exact q_iretP hx hb hr hlocks dX4_state_76 hP hS (by rw [f_G_state, if_neg c1, if_neg c2, if_pos c3, if_neg c5, if_pos c6])
          · have c6 := c6
            by_cases c7 : x2 = 1
            · have c7 := c7
              refine lv_tableIn (tgt := 77) (off := 33) hx hb dX4_state_44 (by rw [c7]; decide) (by rw [c7]; decide) (by rw [c7]; rfl) (by decide) ?_
              refine lv_aload_n hx hb dX4_state_77 rfl (lv_at hl 0 rfl) ?_
              refine va_get (D := D) (ci := 3) (v := .int (I ((Mb x1) + 5) 1)) (C := RX3) (T := TX3) (N := 6) hx hb hts inX3 hown hK hP ((Mb x1) + 5) (mq_S (isM_C (isM_in g4)).1) rfl 3 (by decide) (hts _ k_51) (fun _ h9 => h9) rfl dX4_state_78 ?_
              exact q_iretP hx hb hr hlocks dX4_state_81 hP hS (by rw [f_G_state, if_neg c1, if_neg c2, if_pos c3, if_neg c5, if_neg c6, if_pos c7])
            · have c7 := c7
              by_cases c8 : x2 = 2
              · have c8 := c8
                refine lv_tableIn (tgt := 82) (off := 38) hx hb dX4_state_44 (by rw [c8]; decide) (by rw [c8]; decide) (by rw [c8]; rfl) (by decide) ?_
                refine lv_aload_n hx hb dX4_state_82 rfl (lv_at hl 0 rfl) ?_
                refine va_get (D := D) (ci := 3) (v := .int (I ((Mb x1) + 5) 2)) (C := RX3) (T := TX3) (N := 6) hx hb hts inX3 hown hK hP ((Mb x1) + 5) (mq_S (isM_C (isM_in g4)).1) rfl 4 (by decide) (hts _ k_53) (fun _ h9 => h9) rfl dX4_state_83 ?_
                exact q_iretP hx hb hr hlocks dX4_state_86 hP hS (by rw [f_G_state, if_neg c1, if_neg c2, if_pos c3, if_neg c5, if_neg c6, if_neg c7, if_pos c8])
              · have c8 := c8
                refine lv_tableOut (tgt := 87) hx hb dX4_state_44 (tb_out0_2 c6 c7 c8) (by decide) ?_
                refine lv_aload_n hx hb dX4_state_87 rfl (lv_at hl 0 rfl) ?_
                refine va_get (D := D) (ci := 3) (v := .int (I ((Mb x1) + 5) 3)) (C := RX3) (T := TX3) (N := 6) hx hb hts inX3 hown hK hP ((Mb x1) + 5) (mq_S (isM_C (isM_in g4)).1) rfl 5 (by decide) (hts _ k_55) (fun _ h9 => h9) rfl dX4_state_88 ?_
                exact q_iretP hx hb hr hlocks dX4_state_91 hP hS (by rw [f_G_state, if_neg c1, if_neg c2, if_pos c3, if_neg c5, if_neg c6, if_neg c7, if_neg c8])
        · have c5 := c5
          refine lv_bipush (v := (-2)) hx hb dX4_state_30 (by decide) ?_
          exact q_iretP hx hb hr hlocks dX4_state_32 hP hS (by rw [f_G_state, if_neg c1, if_neg c2, if_pos c3, if_pos c5])
      · have ok := ok.2 c3
        refine lv_iconst (v := (-1)) hx hb dX4_state_16 (by decide) ?_
        exact q_iretP hx hb hr hlocks dX4_state_17 hP hS (by rw [f_G_state, if_neg c1, if_neg c2, if_neg c3])
def f_G_sent (I : Mm) (x1 x2 : Int32) : Int32 := (if (f_G_isChannel x1 x2) = 0 then (-1) else (if (I (Mb x1) 0) = 0 then (-2) else (I (((Mb x1) + 5) + 2) x2.toNatClampNeg)))
def ok_G_sent (I : Mm) (x1 x2 : Int32) : Prop := ((f_G_isChannel x1 x2) = 0 → True) ∧ (¬ (f_G_isChannel x1 x2) = 0 → vp_in x1 3 ∧ (((I (Mb x1) 0) = 0 → True) ∧ (¬ (I (Mb x1) 0) = 0 → vp_in x2 3)))
set_option maxHeartbeats 4000000 in
set_option maxRecDepth 100000 in
theorem c_G_sent (l : Launch) (D : va_G) (cs : Nat → ClassId) (ad : Nat → Nat) (hi : mi ad) (I : Mm) (x1 x2 : Int32) (ok : ok_G_sent I x1 x2) : MC l yX4_sent wX4_sent { frames := 2, cells := 0, slots := 0, locals := 41 } D cs ad [.ref (ad 0), .int x1, .int x2] I (some (.int (f_G_sent I x1 x2))) I := by
  unfold ok_G_sent at ok
  refine q_enter (cc := cX4_sent) (maxL := 3) (ret := (some .int)) (by decide +kernel) rfl (Nat.le_of_ble_eq_true rfl) ?_
  intro p e s m below meth c ls hx hb hr hml hown hts hlocks hK hP hS hl
  have hown : s.vm.findClass RX4 = some m.cls := hown
  have hts : ∀ w ∈ gtbl, w.before _ s = true := fun w h => hts w (List.mem_cons_of_mem _ h)
  have hl : lv_has ls 3 [(0, .ref (ad 0)), (1, .int x1), (2, .int x2)] := hl
  refine lv_iload_n hx hb dX4_sent_0 rfl (lv_at hl 1 rfl) ?_
  refine lv_iload_n hx hb dX4_sent_1 rfl (lv_at hl 2 rfl) ?_
  refine q_callp (va_runS (As := [.int x1, .int x2]) (rest := []) ⟨hx, hb, hml, hown, hts⟩ (c_G_isChannel l D cs ad hi I x1 x2) (va_cwS 2 hts (gS k_120 k_121 k_1 k_122) rfl rfl rfl (by decide +kernel) ⟨Nat.le_of_ble_eq_true rfl, Nat.le_of_ble_eq_true rfl⟩) (q_preS hK hP) rfl rfl hl.1 rfl (lv_room (Nat.le_of_ble_eq_true rfl)) dX4_sent_2 ⟨Nat.zero_le _, Nat.zero_le _⟩) hS (fun _ h => h) (fun H locs hP hS => ?_)
  refine lv_if_ne (tgt := 10) hx hb dX4_sent_5 (by decide) (fun c1 => ?_) (fun c1 => ?_)
  · have ok := ok.2 c1
    refine lv_aload_n hx hb dX4_sent_10 rfl (lv_at hl 0 rfl) ?_
    refine va_get (D := D) (ci := 4) (v := .ref (ad 1)) (C := RX4) (T := TX4) (N := 3) hx hb hts inX4 hown hK hP 0 (mq_G isO_0) rfl 0 (by decide) (hts _ k_101) (fun _ h9 => h9) rfl dX4_sent_11 ?_
    refine lv_iload_n hx hb dX4_sent_14 rfl (lv_at hl 1 rfl) ?_
    have g2 := ok.1
    have ok := ok.2
    refine q_ldM hx hb hK hP g2 dX4_sent_15 ?_
    refine va_get (D := D) (ci := 0) (v := .int (I (Mb x1) 0)) (C := RX0) (T := TX0) (N := 8) hx hb hts inX0 hown hK hP (Mb x1) (mq_M (isM_O (isM_in g2))) rfl 4 (by decide) (hts _ k_87) (fun _ h9 => h9) rfl dX4_sent_16 ?_
    refine lv_if_ne (tgt := 25) hx hb dX4_sent_19 (by decide) (fun c3 => ?_) (fun c3 => ?_)
    · have ok := ok.2 c3
      refine lv_aload_n hx hb dX4_sent_25 rfl (lv_at hl 0 rfl) ?_
      refine va_get (D := D) (ci := 4) (v := .ref (ad 1)) (C := RX4) (T := TX4) (N := 3) hx hb hts inX4 hown hK hP 0 (mq_G isO_0) rfl 0 (by decide) (hts _ k_101) (fun _ h9 => h9) rfl dX4_sent_26 ?_
      refine lv_iload_n hx hb dX4_sent_29 rfl (lv_at hl 1 rfl) ?_
      refine q_ldM hx hb hK hP g2 dX4_sent_30 ?_
      refine va_get (D := D) (ci := 0) (v := .ref (ad ((Mb x1) + 5))) (C := RX0) (T := TX0) (N := 8) hx hb hts inX0 hown hK hP (Mb x1) (mq_M (isM_O (isM_in g2))) rfl 1 (by decide) (hts _ k_81) (fun _ h9 => h9) rfl dX4_sent_31 ?_
      refine va_get (D := D) (ci := 3) (v := .ref (ad (((Mb x1) + 5) + 2))) (C := RX3) (T := TX3) (N := 6) hx hb hts inX3 hown hK hP ((Mb x1) + 5) (mq_S (isM_C (isM_in g2)).1) rfl 1 (by decide) (hts _ k_47) (fun _ h9 => h9) rfl dX4_sent_34 ?_
      refine lv_iload_n hx hb dX4_sent_37 rfl (lv_at hl 2 rfl) ?_
      have g4 := ok
      refine va_iald hx hb hK hP (((Mb x1) + 5) + 2) 0 (mq_A (isM_C (isM_in g2)).2.2) rfl g4 dX4_sent_38 ?_
      exact q_iretP hx hb hr hlocks dX4_sent_39 hP hS (by rw [f_G_sent, if_neg c1, if_neg c3])
    · have ok := ok.1 c3
      refine lv_bipush (v := (-2)) hx hb dX4_sent_22 (by decide) ?_
      exact q_iretP hx hb hr hlocks dX4_sent_24 hP hS (by rw [f_G_sent, if_neg c1, if_pos c3])
  · have ok := ok.1 c1
    refine lv_iconst (v := (-1)) hx hb dX4_sent_8 (by decide) ?_
    exact q_iretP hx hb hr hlocks dX4_sent_9 hP hS (by rw [f_G_sent, if_pos c1])
def f_G_kept (I : Mm) (x1 : Int32) : Int32 := (if (f_G_isProcess x1) = 0 then (-1) else (f_R_count I ((Mb x1) + 11) 20))
def ok_G_kept  (x1 : Int32) : Prop := ((f_G_isProcess x1) = 0 → True) ∧ (¬ (f_G_isProcess x1) = 0 → vp_in x1 3)
set_option maxHeartbeats 4000000 in
set_option maxRecDepth 100000 in
theorem c_G_kept (l : Launch) (D : va_G) (cs : Nat → ClassId) (ad : Nat → Nat) (hi : mi ad) (I : Mm) (x1 : Int32) (ok : ok_G_kept x1) : MC l yX4_kept wX4_kept { frames := 1, cells := 0, slots := 0, locals := 20 } D cs ad [.ref (ad 0), .int x1] I (some (.int (f_G_kept I x1))) I := by
  unfold ok_G_kept at ok
  refine q_enter (cc := cX4_kept) (maxL := 2) (ret := (some .int)) (by decide +kernel) rfl (Nat.le_of_ble_eq_true rfl) ?_
  intro p e s m below meth c ls hx hb hr hml hown hts hlocks hK hP hS hl
  have hown : s.vm.findClass RX4 = some m.cls := hown
  have hts : ∀ w ∈ gtbl, w.before _ s = true := fun w h => hts w (List.mem_cons_of_mem _ h)
  have hl : lv_has ls 2 [(0, .ref (ad 0)), (1, .int x1)] := hl
  refine lv_iload_n hx hb dX4_kept_0 rfl (lv_at hl 1 rfl) ?_
  refine q_callp (va_runS (As := [.int x1]) (rest := []) ⟨hx, hb, hml, hown, hts⟩ (c_G_isProcess l D cs ad hi I x1) (va_cwS 1 hts (gS k_111 k_112 k_1 k_113) rfl rfl rfl (by decide +kernel) ⟨Nat.le_of_ble_eq_true rfl, Nat.le_of_ble_eq_true rfl⟩) (q_preS hK hP) rfl rfl hl.1 rfl (lv_room (Nat.le_of_ble_eq_true rfl)) dX4_kept_1 ⟨Nat.zero_le _, Nat.zero_le _⟩) hS (fun _ h => h) (fun H locs hP hS => ?_)
  refine lv_if_ne (tgt := 9) hx hb dX4_kept_4 (by decide) (fun c1 => ?_) (fun c1 => ?_)
  · have ok := ok.2 c1
    refine lv_aload_n hx hb dX4_kept_9 rfl (lv_at hl 0 rfl) ?_
    refine va_get (D := D) (ci := 4) (v := .ref (ad 1)) (C := RX4) (T := TX4) (N := 3) hx hb hts inX4 hown hK hP 0 (mq_G isO_0) rfl 0 (by decide) (hts _ k_101) (fun _ h9 => h9) rfl dX4_kept_10 ?_
    refine lv_iload_n hx hb dX4_kept_13 rfl (lv_at hl 1 rfl) ?_
    have g2 := ok
    refine q_ldM hx hb hK hP g2 dX4_kept_14 ?_
    refine va_get (D := D) (ci := 0) (v := .ref (ad ((Mb x1) + 11))) (C := RX0) (T := TX0) (N := 8) hx hb hts inX0 hown hK hP (Mb x1) (mq_M (isM_O (isM_in g2))) rfl 3 (by decide) (hts _ k_85) (fun _ h9 => h9) rfl dX4_kept_15 ?_
    refine q_callp (va_runV (As := []) (rest := []) ⟨hx, hb, hml, hown, hts⟩ (c_R_count l D cs ad hi (isM_L (isM_in g2)) I) (cwV 0 hts (gV k_160 k_140 k_141 k_5 k_142) rfl rfl rfl (by decide +kernel) ⟨Nat.le_of_ble_eq_true rfl, Nat.le_of_ble_eq_true rfl⟩) (q_preV hK hP (va_recv hK hP (ci := 1) (q0 := ((Mb x1) + 11)) rfl (mq_R (isM_L (isM_in g2)).1))) rfl rfl hl.1 rfl (lv_room (Nat.le_of_ble_eq_true rfl)) dX4_kept_18 ⟨Nat.zero_le _, Nat.zero_le _⟩) hS (fun _ h => h) (fun H locs hP hS => ?_)
    exact q_iretP hx hb hr hlocks dX4_kept_21 hP hS (by rw [f_G_kept, if_neg c1])
  · have ok := ok.1 c1
    refine lv_iconst (v := (-1)) hx hb dX4_kept_7 (by decide) ?_
    exact q_iretP hx hb hr hlocks dX4_kept_8 hP hS (by rw [f_G_kept, if_pos c1])
def f_G_source (I : Mm) (x1 x2 : Int32) : Int32 := (if (f_G_isProcess x1) = 0 then (-1) else (if (f_R_has I ((Mb x1) + 11) 20 x2) = 0 then (-3) else (f_R_originAt I ((Mb x1) + 11) 20 x2)))
def ok_G_source (I : Mm) (x1 x2 : Int32) : Prop := ((f_G_isProcess x1) = 0 → True) ∧ (¬ (f_G_isProcess x1) = 0 → vp_in x1 3 ∧ (((f_R_has I ((Mb x1) + 11) 20 x2) = 0 → True) ∧ (¬ (f_R_has I ((Mb x1) + 11) 20 x2) = 0 → ok_R_originAt ((Mb x1) + 11) 20 x2)))
set_option maxHeartbeats 4000000 in
set_option maxRecDepth 100000 in
theorem c_G_source (l : Launch) (D : va_G) (cs : Nat → ClassId) (ad : Nat → Nat) (hi : mi ad) (I : Mm) (x1 x2 : Int32) (ok : ok_G_source I x1 x2) : MC l yX4_source wX4_source { frames := 3, cells := 0, slots := 0, locals := 64 } D cs ad [.ref (ad 0), .int x1, .int x2] I (some (.int (f_G_source I x1 x2))) I := by
  unfold ok_G_source at ok
  refine q_enter (cc := cX4_source) (maxL := 4) (ret := (some .int)) (by decide +kernel) rfl (Nat.le_of_ble_eq_true rfl) ?_
  intro p e s m below meth c ls hx hb hr hml hown hts hlocks hK hP hS hl
  have hown : s.vm.findClass RX4 = some m.cls := hown
  have hts : ∀ w ∈ gtbl, w.before _ s = true := fun w h => hts w (List.mem_cons_of_mem _ h)
  have hl : lv_has ls 4 [(0, .ref (ad 0)), (1, .int x1), (2, .int x2)] := hl
  refine lv_iload_n hx hb dX4_source_0 rfl (lv_at hl 1 rfl) ?_
  refine q_callp (va_runS (As := [.int x1]) (rest := []) ⟨hx, hb, hml, hown, hts⟩ (c_G_isProcess l D cs ad hi I x1) (va_cwS 1 hts (gS k_111 k_112 k_1 k_113) rfl rfl rfl (by decide +kernel) ⟨Nat.le_of_ble_eq_true rfl, Nat.le_of_ble_eq_true rfl⟩) (q_preS hK hP) rfl rfl hl.1 rfl (lv_room (Nat.le_of_ble_eq_true rfl)) dX4_source_1 ⟨Nat.zero_le _, Nat.zero_le _⟩) hS (fun _ h => h) (fun H locs hP hS => ?_)
  refine lv_if_ne (tgt := 9) hx hb dX4_source_4 (by decide) (fun c1 => ?_) (fun c1 => ?_)
  · have ok := ok.2 c1
    refine lv_aload_n hx hb dX4_source_9 rfl (lv_at hl 0 rfl) ?_
    refine va_get (D := D) (ci := 4) (v := .ref (ad 1)) (C := RX4) (T := TX4) (N := 3) hx hb hts inX4 hown hK hP 0 (mq_G isO_0) rfl 0 (by decide) (hts _ k_101) (fun _ h9 => h9) rfl dX4_source_10 ?_
    refine lv_iload_n hx hb dX4_source_13 rfl (lv_at hl 1 rfl) ?_
    have g2 := ok.1
    have ok := ok.2
    refine q_ldM hx hb hK hP g2 dX4_source_14 ?_
    refine va_get (D := D) (ci := 0) (v := .ref (ad ((Mb x1) + 11))) (C := RX0) (T := TX0) (N := 8) hx hb hts inX0 hown hK hP (Mb x1) (mq_M (isM_O (isM_in g2))) rfl 3 (by decide) (hts _ k_85) (fun _ h9 => h9) rfl dX4_source_15 ?_
    refine lv_astore_n (lv' := [(3, .ref (ad ((Mb x1) + 11))), (0, .ref (ad 0)), (1, .int x1), (2, .int x2)]) hx hb dX4_source_18 rfl hl (by decide) rfl (fun ls hl => ?_)
    refine lv_aload_n hx hb dX4_source_19 rfl (lv_at hl 0 rfl) ?_
    refine lv_iload_n hx hb dX4_source_20 rfl (lv_at hl 3 rfl) ?_
    refine q_callp (va_runV (As := [.int x2]) (rest := []) ⟨hx, hb, hml, hown, hts⟩ (c_R_has l D cs ad hi (isM_L (isM_in g2)) I x2) (cwV 1 hts (gV k_192 k_193 k_194 k_5 k_195) rfl rfl rfl (by decide +kernel) ⟨Nat.le_of_ble_eq_true rfl, Nat.le_of_ble_eq_true rfl⟩) (q_preV hK hP (va_recv hK hP (ci := 1) (q0 := ((Mb x1) + 11)) rfl (mq_R (isM_L (isM_in g2)).1))) rfl rfl hl.1 rfl (lv_room (Nat.le_of_ble_eq_true rfl)) dX4_source_21 ⟨Nat.zero_le _, Nat.zero_le _⟩) hS (fun _ h => h) (fun H locs hP hS => ?_)
    refine lv_if_ne (tgt := 30) hx hb dX4_source_24 (by decide) (fun c3 => ?_) (fun c3 => ?_)
    · have ok := ok.2 c3
      refine lv_aload_n hx hb dX4_source_30 rfl (lv_at hl 0 rfl) ?_
      refine lv_iload_n hx hb dX4_source_31 rfl (lv_at hl 3 rfl) ?_
      have g4 := ok
      refine q_callp (va_runV (As := [.int x2]) (rest := []) ⟨hx, hb, hml, hown, hts⟩ (c_R_originAt l D cs ad hi (isM_L (isM_in g2)) I x2 g4) (cwV 1 hts (gV k_196 k_197 k_198 k_5 k_199) rfl rfl rfl (by decide +kernel) ⟨Nat.le_of_ble_eq_true rfl, Nat.le_of_ble_eq_true rfl⟩) (q_preV hK hP (va_recv hK hP (ci := 1) (q0 := ((Mb x1) + 11)) rfl (mq_R (isM_L (isM_in g2)).1))) rfl rfl hl.1 rfl (lv_room (Nat.le_of_ble_eq_true rfl)) dX4_source_32 ⟨Nat.zero_le _, Nat.zero_le _⟩) hS (fun _ h => h) (fun H locs hP hS => ?_)
      exact q_iretP hx hb hr hlocks dX4_source_35 hP hS (by rw [f_G_source, if_neg c1, if_neg c3])
    · have ok := ok.1 c3
      refine lv_bipush (v := (-3)) hx hb dX4_source_27 (by decide) ?_
      exact q_iretP hx hb hr hlocks dX4_source_29 hP hS (by rw [f_G_source, if_neg c1, if_pos c3])
  · have ok := ok.1 c1
    refine lv_iconst (v := (-1)) hx hb dX4_source_7 (by decide) ?_
    exact q_iretP hx hb hr hlocks dX4_source_8 hP hS (by rw [f_G_source, if_pos c1])
def f_G_waiting (I : Mm) (x1 x2 : Int32) : Int32 := (if (f_G_isChannel x1 x2) = 0 then (-1) else (f_R_count I (Cb ((x1 * 3) + x2)) 8))
def ok_G_waiting  (x1 x2 : Int32) : Prop := ((f_G_isChannel x1 x2) = 0 → True) ∧ (¬ (f_G_isChannel x1 x2) = 0 → ok_G_channelBetween x1 x2)
set_option maxHeartbeats 4000000 in
set_option maxRecDepth 100000 in
theorem c_G_waiting (l : Launch) (D : va_G) (cs : Nat → ClassId) (ad : Nat → Nat) (hi : mi ad) (I : Mm) (x1 x2 : Int32) (ok : ok_G_waiting x1 x2) : MC l yX4_waiting wX4_waiting { frames := 2, cells := 0, slots := 0, locals := 41 } D cs ad [.ref (ad 0), .int x1, .int x2] I (some (.int (f_G_waiting I x1 x2))) I := by
  unfold ok_G_waiting at ok
  refine q_enter (cc := cX4_waiting) (maxL := 3) (ret := (some .int)) (by decide +kernel) rfl (Nat.le_of_ble_eq_true rfl) ?_
  intro p e s m below meth c ls hx hb hr hml hown hts hlocks hK hP hS hl
  have hown : s.vm.findClass RX4 = some m.cls := hown
  have hts : ∀ w ∈ gtbl, w.before _ s = true := fun w h => hts w (List.mem_cons_of_mem _ h)
  have hl : lv_has ls 3 [(0, .ref (ad 0)), (1, .int x1), (2, .int x2)] := hl
  refine lv_iload_n hx hb dX4_waiting_0 rfl (lv_at hl 1 rfl) ?_
  refine lv_iload_n hx hb dX4_waiting_1 rfl (lv_at hl 2 rfl) ?_
  refine q_callp (va_runS (As := [.int x1, .int x2]) (rest := []) ⟨hx, hb, hml, hown, hts⟩ (c_G_isChannel l D cs ad hi I x1 x2) (va_cwS 2 hts (gS k_120 k_121 k_1 k_122) rfl rfl rfl (by decide +kernel) ⟨Nat.le_of_ble_eq_true rfl, Nat.le_of_ble_eq_true rfl⟩) (q_preS hK hP) rfl rfl hl.1 rfl (lv_room (Nat.le_of_ble_eq_true rfl)) dX4_waiting_2 ⟨Nat.zero_le _, Nat.zero_le _⟩) hS (fun _ h => h) (fun H locs hP hS => ?_)
  refine lv_if_ne (tgt := 10) hx hb dX4_waiting_5 (by decide) (fun c1 => ?_) (fun c1 => ?_)
  · have ok := ok.2 c1
    refine lv_aload_n hx hb dX4_waiting_10 rfl (lv_at hl 0 rfl) ?_
    refine lv_iload_n hx hb dX4_waiting_11 rfl (lv_at hl 1 rfl) ?_
    refine lv_iload_n hx hb dX4_waiting_12 rfl (lv_at hl 2 rfl) ?_
    have g2 := ok
    refine q_callr (va_runV (As := [.int x1, .int x2]) (rest := []) ⟨hx, hb, hml, hown, hts⟩ (c_G_channelBetween l D cs ad hi I x1 x2 g2) (cwV 2 hts (gV k_157 k_158 k_431 k_1 k_159) rfl rfl rfl (by decide +kernel) ⟨Nat.le_of_ble_eq_true rfl, Nat.le_of_ble_eq_true rfl⟩) (q_preV hK hP (va_recv hK hP (ci := 4) (q0 := 0) rfl (mq_G isO_0))) rfl rfl hl.1 rfl (lv_room (Nat.le_of_ble_eq_true rfl)) dX4_waiting_13 ⟨Nat.zero_le _, Nat.zero_le _⟩) hS (fun _ h => h) (fun H locs hP hS => ?_)
    refine q_callp (va_runV (As := []) (rest := []) ⟨hx, hb, hml, hown, hts⟩ (c_R_count l D cs ad hi (isR_in g2) I) (cwV 0 hts (gV k_160 k_140 k_141 k_5 k_142) rfl rfl rfl (by decide +kernel) ⟨Nat.le_of_ble_eq_true rfl, Nat.le_of_ble_eq_true rfl⟩) (q_preV hK hP (va_recv hK hP (ci := 1) (q0 := (Cb ((x1 * 3) + x2))) rfl (mq_R (isR_in g2).1))) rfl rfl hl.1 rfl (lv_room (Nat.le_of_ble_eq_true rfl)) dX4_waiting_16 ⟨Nat.zero_le _, Nat.zero_le _⟩) hS (fun _ h => h) (fun H locs hP hS => ?_)
    exact q_iretP hx hb hr hlocks dX4_waiting_19 hP hS (by rw [f_G_waiting, if_neg c1])
  · have ok := ok.1 c1
    refine lv_iconst (v := (-1)) hx hb dX4_waiting_8 (by decide) ?_
    exact q_iretP hx hb hr hlocks dX4_waiting_9 hP hS (by rw [f_G_waiting, if_pos c1])
def f_G_held (I : Mm) (x1 : Int32) : Int32 := (if (f_G_isProcess x1) = 0 then (-1) else (I (Mb x1) 3))
def ok_G_held  (x1 : Int32) : Prop := ((f_G_isProcess x1) = 0 → True) ∧ (¬ (f_G_isProcess x1) = 0 → vp_in x1 3)
set_option maxHeartbeats 4000000 in
set_option maxRecDepth 100000 in
theorem c_G_held (l : Launch) (D : va_G) (cs : Nat → ClassId) (ad : Nat → Nat) (hi : mi ad) (I : Mm) (x1 : Int32) (ok : ok_G_held x1) : MC l yX4_held wX4_held { frames := 1, cells := 0, slots := 0, locals := 20 } D cs ad [.ref (ad 0), .int x1] I (some (.int (f_G_held I x1))) I := by
  unfold ok_G_held at ok
  refine q_enter (cc := cX4_held) (maxL := 2) (ret := (some .int)) (by decide +kernel) rfl (Nat.le_of_ble_eq_true rfl) ?_
  intro p e s m below meth c ls hx hb hr hml hown hts hlocks hK hP hS hl
  have hown : s.vm.findClass RX4 = some m.cls := hown
  have hts : ∀ w ∈ gtbl, w.before _ s = true := fun w h => hts w (List.mem_cons_of_mem _ h)
  have hl : lv_has ls 2 [(0, .ref (ad 0)), (1, .int x1)] := hl
  refine lv_iload_n hx hb dX4_held_0 rfl (lv_at hl 1 rfl) ?_
  refine q_callp (va_runS (As := [.int x1]) (rest := []) ⟨hx, hb, hml, hown, hts⟩ (c_G_isProcess l D cs ad hi I x1) (va_cwS 1 hts (gS k_111 k_112 k_1 k_113) rfl rfl rfl (by decide +kernel) ⟨Nat.le_of_ble_eq_true rfl, Nat.le_of_ble_eq_true rfl⟩) (q_preS hK hP) rfl rfl hl.1 rfl (lv_room (Nat.le_of_ble_eq_true rfl)) dX4_held_1 ⟨Nat.zero_le _, Nat.zero_le _⟩) hS (fun _ h => h) (fun H locs hP hS => ?_)
  refine lv_if_ne (tgt := 9) hx hb dX4_held_4 (by decide) (fun c1 => ?_) (fun c1 => ?_)
  · have ok := ok.2 c1
    refine lv_aload_n hx hb dX4_held_9 rfl (lv_at hl 0 rfl) ?_
    refine va_get (D := D) (ci := 4) (v := .ref (ad 1)) (C := RX4) (T := TX4) (N := 3) hx hb hts inX4 hown hK hP 0 (mq_G isO_0) rfl 0 (by decide) (hts _ k_101) (fun _ h9 => h9) rfl dX4_held_10 ?_
    refine lv_iload_n hx hb dX4_held_13 rfl (lv_at hl 1 rfl) ?_
    have g2 := ok
    refine q_ldM hx hb hK hP g2 dX4_held_14 ?_
    refine va_get (D := D) (ci := 0) (v := .int (I (Mb x1) 3)) (C := RX0) (T := TX0) (N := 8) hx hb hts inX0 hown hK hP (Mb x1) (mq_M (isM_O (isM_in g2))) rfl 7 (by decide) (hts _ k_90) (fun _ h9 => h9) rfl dX4_held_15 ?_
    exact q_iretP hx hb hr hlocks dX4_held_18 hP hS (by rw [f_G_held, if_neg c1])
  · have ok := ok.1 c1
    refine lv_iconst (v := (-1)) hx hb dX4_held_7 (by decide) ?_
    exact q_iretP hx hb hr hlocks dX4_held_8 hP hS (by rw [f_G_held, if_pos c1])
def f_G_outputs (I : Mm) : Int32 := (f_R_count I 72 60)
set_option maxHeartbeats 4000000 in
set_option maxRecDepth 100000 in
theorem c_G_outputs (l : Launch) (D : va_G) (cs : Nat → ClassId) (ad : Nat → Nat) (hi : mi ad) (I : Mm) : MC l yX4_outputs wX4_outputs { frames := 1, cells := 0, slots := 0, locals := 20 } D cs ad [.ref (ad 0)] I (some (.int (f_G_outputs I))) I := by
  refine q_enter (cc := cX4_outputs) (maxL := 1) (ret := (some .int)) (by decide +kernel) rfl (Nat.le_of_ble_eq_true rfl) ?_
  intro p e s m below meth c ls hx hb hr hml hown hts hlocks hK hP hS hl
  have hown : s.vm.findClass RX4 = some m.cls := hown
  have hts : ∀ w ∈ gtbl, w.before _ s = true := fun w h => hts w (List.mem_cons_of_mem _ h)
  have hl : lv_has ls 1 [(0, .ref (ad 0))] := hl
  refine lv_aload_n hx hb dX4_outputs_0 rfl (lv_at hl 0 rfl) ?_
  refine va_get (D := D) (ci := 4) (v := .ref (ad 72)) (C := RX4) (T := TX4) (N := 3) hx hb hts inX4 hown hK hP 0 (mq_G isO_0) rfl 2 (by decide) (hts _ k_103) (fun _ h9 => h9) rfl dX4_outputs_1 ?_
  refine q_callp (va_runV (As := []) (rest := []) ⟨hx, hb, hml, hown, hts⟩ (c_R_count l D cs ad hi isR_72 I) (cwV 0 hts (gV k_160 k_140 k_141 k_5 k_142) rfl rfl rfl (by decide +kernel) ⟨Nat.le_of_ble_eq_true rfl, Nat.le_of_ble_eq_true rfl⟩) (q_preV hK hP (va_recv hK hP (ci := 1) (q0 := 72) rfl (mq_R isR_72.1))) rfl rfl hl.1 rfl (lv_room (Nat.le_of_ble_eq_true rfl)) dX4_outputs_4 ⟨Nat.zero_le _, Nat.zero_le _⟩) hS (fun _ h => h) (fun H locs hP hS => ?_)
  exact q_iretP hx hb hr hlocks dX4_outputs_7 hP hS rfl
def f_G_author (I : Mm) (x1 : Int32) : Int32 := (if (f_R_has I 72 60 (f_G_outputNumber x1)) = 0 then (-1) else (f_R_originAt I 72 60 (f_G_outputNumber x1)))
def ok_G_author (I : Mm) (x1 : Int32) : Prop := ((f_R_has I 72 60 (f_G_outputNumber x1)) = 0 → True) ∧ (¬ (f_R_has I 72 60 (f_G_outputNumber x1)) = 0 → ok_R_originAt 72 60 (f_G_outputNumber x1))
set_option maxHeartbeats 4000000 in
set_option maxRecDepth 100000 in
theorem c_G_author (l : Launch) (D : va_G) (cs : Nat → ClassId) (ad : Nat → Nat) (hi : mi ad) (I : Mm) (x1 : Int32) (ok : ok_G_author I x1) : MC l yX4_author wX4_author { frames := 3, cells := 0, slots := 0, locals := 64 } D cs ad [.ref (ad 0), .int x1] I (some (.int (f_G_author I x1))) I := by
  unfold ok_G_author at ok
  refine q_enter (cc := cX4_author) (maxL := 3) (ret := (some .int)) (by decide +kernel) rfl (Nat.le_of_ble_eq_true rfl) ?_
  intro p e s m below meth c ls hx hb hr hml hown hts hlocks hK hP hS hl
  have hown : s.vm.findClass RX4 = some m.cls := hown
  have hts : ∀ w ∈ gtbl, w.before _ s = true := fun w h => hts w (List.mem_cons_of_mem _ h)
  have hl : lv_has ls 3 [(0, .ref (ad 0)), (1, .int x1)] := hl
  refine lv_iload_n hx hb dX4_author_0 rfl (lv_at hl 1 rfl) ?_
  refine q_callp (va_runS (As := [.int x1]) (rest := []) ⟨hx, hb, hml, hown, hts⟩ (c_G_outputNumber l D cs ad hi I x1) (va_cwS 1 hts (gS k_262 k_263 k_1 k_264) rfl rfl rfl (by decide +kernel) ⟨Nat.le_of_ble_eq_true rfl, Nat.le_of_ble_eq_true rfl⟩) (q_preS hK hP) rfl rfl hl.1 rfl (lv_room (Nat.le_of_ble_eq_true rfl)) dX4_author_1 ⟨Nat.zero_le _, Nat.zero_le _⟩) hS (fun _ h => h) (fun H locs hP hS => ?_)
  refine lv_istore_n (lv' := [(2, .int (f_G_outputNumber x1)), (0, .ref (ad 0)), (1, .int x1)]) hx hb dX4_author_4 rfl hl (by decide) rfl (fun ls hl => ?_)
  refine lv_aload_n hx hb dX4_author_5 rfl (lv_at hl 1 rfl) ?_
  refine va_get (D := D) (ci := 4) (v := .ref (ad 72)) (C := RX4) (T := TX4) (N := 3) hx hb hts inX4 hown hK hP 0 (mq_G isO_0) rfl 2 (by decide) (hts _ k_103) (fun _ h9 => h9) rfl dX4_author_6 ?_
  refine lv_iload_n hx hb dX4_author_9 rfl (lv_at hl 0 rfl) ?_
  refine q_callp (va_runV (As := [.int (f_G_outputNumber x1)]) (rest := []) ⟨hx, hb, hml, hown, hts⟩ (c_R_has l D cs ad hi isR_72 I (f_G_outputNumber x1)) (cwV 1 hts (gV k_192 k_193 k_194 k_5 k_195) rfl rfl rfl (by decide +kernel) ⟨Nat.le_of_ble_eq_true rfl, Nat.le_of_ble_eq_true rfl⟩) (q_preV hK hP (va_recv hK hP (ci := 1) (q0 := 72) rfl (mq_R isR_72.1))) rfl rfl hl.1 rfl (lv_room (Nat.le_of_ble_eq_true rfl)) dX4_author_10 ⟨Nat.zero_le _, Nat.zero_le _⟩) hS (fun _ h => h) (fun H locs hP hS => ?_)
  refine lv_if_ne (tgt := 18) hx hb dX4_author_13 (by decide) (fun c1 => ?_) (fun c1 => ?_)
  · have ok := ok.2 c1
    refine lv_aload_n hx hb dX4_author_18 rfl (lv_at hl 1 rfl) ?_
    refine va_get (D := D) (ci := 4) (v := .ref (ad 72)) (C := RX4) (T := TX4) (N := 3) hx hb hts inX4 hown hK hP 0 (mq_G isO_0) rfl 2 (by decide) (hts _ k_103) (fun _ h9 => h9) rfl dX4_author_19 ?_
    refine lv_iload_n hx hb dX4_author_22 rfl (lv_at hl 0 rfl) ?_
    have g2 := ok
    refine q_callp (va_runV (As := [.int (f_G_outputNumber x1)]) (rest := []) ⟨hx, hb, hml, hown, hts⟩ (c_R_originAt l D cs ad hi isR_72 I (f_G_outputNumber x1) g2) (cwV 1 hts (gV k_196 k_197 k_198 k_5 k_199) rfl rfl rfl (by decide +kernel) ⟨Nat.le_of_ble_eq_true rfl, Nat.le_of_ble_eq_true rfl⟩) (q_preV hK hP (va_recv hK hP (ci := 1) (q0 := 72) rfl (mq_R isR_72.1))) rfl rfl hl.1 rfl (lv_room (Nat.le_of_ble_eq_true rfl)) dX4_author_23 ⟨Nat.zero_le _, Nat.zero_le _⟩) hS (fun _ h => h) (fun H locs hP hS => ?_)
    exact q_iretP hx hb hr hlocks dX4_author_26 hP hS (by rw [f_G_author, if_neg c1])
  · have ok := ok.1 c1
    refine lv_iconst (v := (-1)) hx hb dX4_author_16 (by decide) ?_
    exact q_iretP hx hb hr hlocks dX4_author_17 hP hS (by rw [f_G_author, if_pos c1])
def f_G_output (I : Mm) (x1 : Int32) : Int32 := (if (f_R_has I 72 60 (f_G_outputNumber x1)) = 0 then 0 else (f_R_valueAt I 72 60 (f_G_outputNumber x1)))
def ok_G_output (I : Mm) (x1 : Int32) : Prop := ((f_R_has I 72 60 (f_G_outputNumber x1)) = 0 → True) ∧ (¬ (f_R_has I 72 60 (f_G_outputNumber x1)) = 0 → ok_R_valueAt 72 60 (f_G_outputNumber x1))
set_option maxHeartbeats 4000000 in
set_option maxRecDepth 100000 in
theorem c_G_output (l : Launch) (D : va_G) (cs : Nat → ClassId) (ad : Nat → Nat) (hi : mi ad) (I : Mm) (x1 : Int32) (ok : ok_G_output I x1) : MC l yX4_output wX4_output { frames := 3, cells := 0, slots := 0, locals := 64 } D cs ad [.ref (ad 0), .int x1] I (some (.int (f_G_output I x1))) I := by
  unfold ok_G_output at ok
  refine q_enter (cc := cX4_output) (maxL := 3) (ret := (some .int)) (by decide +kernel) rfl (Nat.le_of_ble_eq_true rfl) ?_
  intro p e s m below meth c ls hx hb hr hml hown hts hlocks hK hP hS hl
  have hown : s.vm.findClass RX4 = some m.cls := hown
  have hts : ∀ w ∈ gtbl, w.before _ s = true := fun w h => hts w (List.mem_cons_of_mem _ h)
  have hl : lv_has ls 3 [(0, .ref (ad 0)), (1, .int x1)] := hl
  refine lv_iload_n hx hb dX4_output_0 rfl (lv_at hl 1 rfl) ?_
  refine q_callp (va_runS (As := [.int x1]) (rest := []) ⟨hx, hb, hml, hown, hts⟩ (c_G_outputNumber l D cs ad hi I x1) (va_cwS 1 hts (gS k_262 k_263 k_1 k_264) rfl rfl rfl (by decide +kernel) ⟨Nat.le_of_ble_eq_true rfl, Nat.le_of_ble_eq_true rfl⟩) (q_preS hK hP) rfl rfl hl.1 rfl (lv_room (Nat.le_of_ble_eq_true rfl)) dX4_output_1 ⟨Nat.zero_le _, Nat.zero_le _⟩) hS (fun _ h => h) (fun H locs hP hS => ?_)
  refine lv_istore_n (lv' := [(2, .int (f_G_outputNumber x1)), (0, .ref (ad 0)), (1, .int x1)]) hx hb dX4_output_4 rfl hl (by decide) rfl (fun ls hl => ?_)
  refine lv_aload_n hx hb dX4_output_5 rfl (lv_at hl 1 rfl) ?_
  refine va_get (D := D) (ci := 4) (v := .ref (ad 72)) (C := RX4) (T := TX4) (N := 3) hx hb hts inX4 hown hK hP 0 (mq_G isO_0) rfl 2 (by decide) (hts _ k_103) (fun _ h9 => h9) rfl dX4_output_6 ?_
  refine lv_iload_n hx hb dX4_output_9 rfl (lv_at hl 0 rfl) ?_
  refine q_callp (va_runV (As := [.int (f_G_outputNumber x1)]) (rest := []) ⟨hx, hb, hml, hown, hts⟩ (c_R_has l D cs ad hi isR_72 I (f_G_outputNumber x1)) (cwV 1 hts (gV k_192 k_193 k_194 k_5 k_195) rfl rfl rfl (by decide +kernel) ⟨Nat.le_of_ble_eq_true rfl, Nat.le_of_ble_eq_true rfl⟩) (q_preV hK hP (va_recv hK hP (ci := 1) (q0 := 72) rfl (mq_R isR_72.1))) rfl rfl hl.1 rfl (lv_room (Nat.le_of_ble_eq_true rfl)) dX4_output_10 ⟨Nat.zero_le _, Nat.zero_le _⟩) hS (fun _ h => h) (fun H locs hP hS => ?_)
  refine lv_if_ne (tgt := 18) hx hb dX4_output_13 (by decide) (fun c1 => ?_) (fun c1 => ?_)
  · have ok := ok.2 c1
    refine lv_aload_n hx hb dX4_output_18 rfl (lv_at hl 1 rfl) ?_
    refine va_get (D := D) (ci := 4) (v := .ref (ad 72)) (C := RX4) (T := TX4) (N := 3) hx hb hts inX4 hown hK hP 0 (mq_G isO_0) rfl 2 (by decide) (hts _ k_103) (fun _ h9 => h9) rfl dX4_output_19 ?_
    refine lv_iload_n hx hb dX4_output_22 rfl (lv_at hl 0 rfl) ?_
    have g2 := ok
    refine q_callp (va_runV (As := [.int (f_G_outputNumber x1)]) (rest := []) ⟨hx, hb, hml, hown, hts⟩ (c_R_valueAt l D cs ad hi isR_72 I (f_G_outputNumber x1) g2) (cwV 1 hts (gV k_161 k_162 k_163 k_5 k_164) rfl rfl rfl (by decide +kernel) ⟨Nat.le_of_ble_eq_true rfl, Nat.le_of_ble_eq_true rfl⟩) (q_preV hK hP (va_recv hK hP (ci := 1) (q0 := 72) rfl (mq_R isR_72.1))) rfl rfl hl.1 rfl (lv_room (Nat.le_of_ble_eq_true rfl)) dX4_output_23 ⟨Nat.zero_le _, Nat.zero_le _⟩) hS (fun _ h => h) (fun H locs hP hS => ?_)
    exact q_iretP hx hb hr hlocks dX4_output_26 hP hS (by rw [f_G_output, if_neg c1])
  · have ok := ok.1 c1
    refine lv_iconst (v := 0) hx hb dX4_output_16 (by decide) ?_
    exact q_iretP hx hb hr hlocks dX4_output_17 hP hS (by rw [f_G_output, if_pos c1])

def f_X_kept0 (I : Mm) (x1 : Int32) : Int32 := ((I 86 x1.toNatClampNeg) - (I 83 x1.toNatClampNeg))
def ok_X_kept0  (x1 : Int32) : Prop := vp_in x1 3
set_option maxHeartbeats 4000000 in
set_option maxRecDepth 100000 in
theorem c_X_kept0 (l : Launch) (D : va_G) (cs : Nat → ClassId) (ad : Nat → Nat) (hi : mi ad) (I : Mm) (x1 : Int32) (ok : ok_X_kept0 x1) : MC l yX5_kept0 wX5_kept0 { frames := 0, cells := 0, slots := 0, locals := 0 } D cs ad [.ref (ad 75), .int x1] I (some (.int (f_X_kept0 I x1))) I := by
  unfold ok_X_kept0 at ok
  refine q_enter (cc := cX5_kept0) (maxL := 2) (ret := (some .int)) (by decide +kernel) rfl (Nat.le_of_ble_eq_true rfl) ?_
  intro p e s m below meth c ls hx hb hr hml hown hts hlocks hK hP hS hl
  have hown : s.vm.findClass RX5 = some m.cls := hown
  have hts : ∀ w ∈ gtbl, w.before _ s = true := fun w h => hts w (List.mem_cons_of_mem _ h)
  have hl : lv_has ls 2 [(0, .ref (ad 75)), (1, .int x1)] := hl
  refine lv_aload_n hx hb dX5_kept0_0 rfl (lv_at hl 0 rfl) ?_
  refine va_get (D := D) (ci := 5) (v := .ref (ad 86)) (C := RX5) (T := TX5) (N := 26) hx hb hts inX5 hown hK hP 75 (mq_X isO_75) rfl 10 (by decide) (hts _ k_285) (fun _ h9 => h9) rfl dX5_kept0_1 ?_
  refine lv_iload_n hx hb dX5_kept0_4 rfl (lv_at hl 1 rfl) ?_
  have g1 := ok
  refine va_iald hx hb hK hP 86 0 (mq_A iA_86) rfl g1 dX5_kept0_5 ?_
  refine lv_aload_n hx hb dX5_kept0_6 rfl (lv_at hl 0 rfl) ?_
  refine va_get (D := D) (ci := 5) (v := .ref (ad 83)) (C := RX5) (T := TX5) (N := 26) hx hb hts inX5 hown hK hP 75 (mq_X isO_75) rfl 7 (by decide) (hts _ k_282) (fun _ h9 => h9) rfl dX5_kept0_7 ?_
  refine lv_iload_n hx hb dX5_kept0_10 rfl (lv_at hl 1 rfl) ?_
  refine va_iald hx hb hK hP 83 0 (mq_A iA_83) rfl g1 dX5_kept0_11 ?_
  refine lv_isub hx hb dX5_kept0_12 ?_
  exact q_iretP hx hb hr hlocks dX5_kept0_13 hP hS rfl
def m_X_append_1 (I : Mm) (x1 x2 x3 : Int32) : Mm := u2 I 87 (((512 * x1) + (I 86 x1.toNatClampNeg)).toNatClampNeg) x2
def m_X_append_2 (I : Mm) (x1 x2 x3 : Int32) : Mm := u2 (m_X_append_1 I x1 x2 x3) 88 (((512 * x1) + ((m_X_append_1 I x1 x2 x3) 86 x1.toNatClampNeg)).toNatClampNeg) x3
def m_X_append_3 (I : Mm) (x1 x2 x3 : Int32) : Mm := u2 (m_X_append_2 I x1 x2 x3) 86 x1.toNatClampNeg (((m_X_append_2 I x1 x2 x3) 86 x1.toNatClampNeg) + 1)
def f_X_append (I : Mm) (x1 x2 x3 : Int32) : Int32 × Mm := ((m_X_append_3 I x1 x2 x3) 86 x1.toNatClampNeg, (m_X_append_3 I x1 x2 x3))
def ok_X_append (I : Mm) (x1 x2 x3 : Int32) : Prop := vp_in x1 3 ∧ (vp_in ((512 * x1) + (I 86 x1.toNatClampNeg)) 1536 ∧ (vp_in ((512 * x1) + ((m_X_append_1 I x1 x2 x3) 86 x1.toNatClampNeg)) 1536))
set_option maxHeartbeats 4000000 in
set_option maxRecDepth 100000 in
theorem c_X_append (l : Launch) (D : va_G) (cs : Nat → ClassId) (ad : Nat → Nat) (hi : mi ad) (I : Mm) (x1 x2 x3 : Int32) (ok : ok_X_append I x1 x2 x3) : MC l yX5_append wX5_append { frames := 0, cells := 0, slots := 0, locals := 0 } D cs ad [.ref (ad 75), .int x1, .int x2, .int x3] I (some (.int (f_X_append I x1 x2 x3).1)) (f_X_append I x1 x2 x3).2 := by
  unfold ok_X_append at ok
  refine q_enter (cc := cX5_append) (maxL := 4) (ret := (some .int)) (by decide +kernel) rfl (Nat.le_of_ble_eq_true rfl) ?_
  intro p e s m below meth c ls hx hb hr hml hown hts hlocks hK hP hS hl
  have hown : s.vm.findClass RX5 = some m.cls := hown
  have hts : ∀ w ∈ gtbl, w.before _ s = true := fun w h => hts w (List.mem_cons_of_mem _ h)
  have hl : lv_has ls 4 [(0, .ref (ad 75)), (1, .int x1), (2, .int x2), (3, .int x3)] := hl
  refine lv_aload_n hx hb dX5_append_0 rfl (lv_at hl 0 rfl) ?_
  refine va_get (D := D) (ci := 5) (v := .ref (ad 87)) (C := RX5) (T := TX5) (N := 26) hx hb hts inX5 hown hK hP 75 (mq_X isO_75) rfl 11 (by decide) (hts _ k_286) (fun _ h9 => h9) rfl dX5_append_1 ?_
  refine lv_sipush (v := 512) hx hb dX5_append_4 (by decide) ?_
  refine lv_iload_n hx hb dX5_append_7 rfl (lv_at hl 1 rfl) ?_
  refine lv_imul hx hb dX5_append_8 ?_
  refine lv_aload_n hx hb dX5_append_9 rfl (lv_at hl 0 rfl) ?_
  refine va_get (D := D) (ci := 5) (v := .ref (ad 86)) (C := RX5) (T := TX5) (N := 26) hx hb hts inX5 hown hK hP 75 (mq_X isO_75) rfl 10 (by decide) (hts _ k_285) (fun _ h9 => h9) rfl dX5_append_10 ?_
  refine lv_iload_n hx hb dX5_append_13 rfl (lv_at hl 1 rfl) ?_
  have g1 := ok.1
  have ok := ok.2
  refine va_iald hx hb hK hP 86 0 (mq_A iA_86) rfl g1 dX5_append_14 ?_
  refine lv_iadd hx hb dX5_append_15 ?_
  refine lv_iload_n hx hb dX5_append_16 rfl (lv_at hl 2 rfl) ?_
  have g2 := ok.1
  have ok := ok.2
  refine va_iast hx hb hK hP (mD hi) hS 87 0 (mq_A iA_87) rfl g2 dX5_append_17 (fun H locs hP _ hS => ?_)
  have hP := ms_A iA_87 hP
  have hP : va_P D vwCl (mw 97 ad (gs cs ad (m_X_append_1 I x1 x2 x3))) H := hP
  refine lv_aload_n hx hb dX5_append_18 rfl (lv_at hl 0 rfl) ?_
  refine va_get (D := D) (ci := 5) (v := .ref (ad 88)) (C := RX5) (T := TX5) (N := 26) hx hb hts inX5 hown hK hP 75 (mq_X isO_75) rfl 12 (by decide) (hts _ k_287) (fun _ h9 => h9) rfl dX5_append_19 ?_
  refine lv_sipush (v := 512) hx hb dX5_append_22 (by decide) ?_
  refine lv_iload_n hx hb dX5_append_25 rfl (lv_at hl 1 rfl) ?_
  refine lv_imul hx hb dX5_append_26 ?_
  refine lv_aload_n hx hb dX5_append_27 rfl (lv_at hl 0 rfl) ?_
  refine va_get (D := D) (ci := 5) (v := .ref (ad 86)) (C := RX5) (T := TX5) (N := 26) hx hb hts inX5 hown hK hP 75 (mq_X isO_75) rfl 10 (by decide) (hts _ k_285) (fun _ h9 => h9) rfl dX5_append_28 ?_
  refine lv_iload_n hx hb dX5_append_31 rfl (lv_at hl 1 rfl) ?_
  refine va_iald hx hb hK hP 86 0 (mq_A iA_86) rfl g1 dX5_append_32 ?_
  refine lv_iadd hx hb dX5_append_33 ?_
  refine lv_iload_n hx hb dX5_append_34 rfl (lv_at hl 3 rfl) ?_
  have g3 := ok
  refine va_iast hx hb hK hP (mD hi) hS 88 0 (mq_A iA_88) rfl g3 dX5_append_35 (fun H locs hP _ hS => ?_)
  have hP := ms_A iA_88 hP
  have hP : va_P D vwCl (mw 97 ad (gs cs ad (m_X_append_2 I x1 x2 x3))) H := hP
  refine lv_aload_n hx hb dX5_append_36 rfl (lv_at hl 0 rfl) ?_
  refine va_get (D := D) (ci := 5) (v := .ref (ad 86)) (C := RX5) (T := TX5) (N := 26) hx hb hts inX5 hown hK hP 75 (mq_X isO_75) rfl 10 (by decide) (hts _ k_285) (fun _ h9 => h9) rfl dX5_append_37 ?_
  refine lv_iload_n hx hb dX5_append_40 rfl (lv_at hl 1 rfl) ?_
  refine lv_dup2_11 hx hb dX5_append_41 rfl rfl ?_
  refine va_iald hx hb hK hP 86 0 (mq_A iA_86) rfl g1 dX5_append_42 ?_
  refine lv_iconst (v := 1) hx hb dX5_append_43 (by decide) ?_
  refine lv_iadd hx hb dX5_append_44 ?_
  refine va_iast hx hb hK hP (mD hi) hS 86 0 (mq_A iA_86) rfl g1 dX5_append_45 (fun H locs hP _ hS => ?_)
  have hP := ms_A iA_86 hP
  have hP : va_P D vwCl (mw 97 ad (gs cs ad (m_X_append_3 I x1 x2 x3))) H := hP
  refine lv_aload_n hx hb dX5_append_46 rfl (lv_at hl 0 rfl) ?_
  refine va_get (D := D) (ci := 5) (v := .ref (ad 86)) (C := RX5) (T := TX5) (N := 26) hx hb hts inX5 hown hK hP 75 (mq_X isO_75) rfl 10 (by decide) (hts _ k_285) (fun _ h9 => h9) rfl dX5_append_47 ?_
  refine lv_iload_n hx hb dX5_append_50 rfl (lv_at hl 1 rfl) ?_
  refine va_iald hx hb hK hP 86 0 (mq_A iA_86) rfl g1 dX5_append_51 ?_
  exact q_iret hx hb hr hlocks dX5_append_52 hP hS rfl
def f_X_input (I : Mm) (x1 x2 : Int32) : Int32 × Mm := (if (f_X_isProcess x1) = 0 then ((-1), I) else (if (I 80 x1.toNatClampNeg) = 0 then (if (f_X_kept0 I x1) = 20 then ((-4), I) else ((f_X_append I x1 x2 3).1, (f_X_append I x1 x2 3).2)) else ((-2), I)))
def ok_X_input (I : Mm) (x1 x2 : Int32) : Prop := ((f_X_isProcess x1) = 0 → True) ∧ (¬ (f_X_isProcess x1) = 0 → vp_in x1 3 ∧ (((I 80 x1.toNatClampNeg) = 0 → ok_X_kept0 x1 ∧ (((f_X_kept0 I x1) = 20 → True) ∧ (¬ (f_X_kept0 I x1) = 20 → ok_X_append I x1 x2 3))) ∧ (¬ (I 80 x1.toNatClampNeg) = 0 → True)))
set_option maxHeartbeats 4000000 in
set_option maxRecDepth 100000 in
theorem c_X_input (l : Launch) (D : va_G) (cs : Nat → ClassId) (ad : Nat → Nat) (hi : mi ad) (I : Mm) (x1 x2 : Int32) (ok : ok_X_input I x1 x2) : MC l yX5_input wX5_input { frames := 1, cells := 0, slots := 0, locals := 23 } D cs ad [.ref (ad 75), .int x1, .int x2] I (some (.int (f_X_input I x1 x2).1)) (f_X_input I x1 x2).2 := by
  unfold ok_X_input at ok
  refine q_enter (cc := cX5_input) (maxL := 3) (ret := (some .int)) (by decide +kernel) rfl (Nat.le_of_ble_eq_true rfl) ?_
  intro p e s m below meth c ls hx hb hr hml hown hts hlocks hK hP hS hl
  have hown : s.vm.findClass RX5 = some m.cls := hown
  have hts : ∀ w ∈ gtbl, w.before _ s = true := fun w h => hts w (List.mem_cons_of_mem _ h)
  have hl : lv_has ls 3 [(0, .ref (ad 75)), (1, .int x1), (2, .int x2)] := hl
  refine lv_iload_n hx hb dX5_input_0 rfl (lv_at hl 1 rfl) ?_
  refine q_callp (va_runS (As := [.int x1]) (rest := []) ⟨hx, hb, hml, hown, hts⟩ (c_X_isProcess l D cs ad hi I x1) (va_cwS 1 hts (gS k_332 k_333 k_6 k_334) rfl rfl rfl (by decide +kernel) ⟨Nat.le_of_ble_eq_true rfl, Nat.le_of_ble_eq_true rfl⟩) (q_preS hK hP) rfl rfl hl.1 rfl (lv_room (Nat.le_of_ble_eq_true rfl)) dX5_input_1 ⟨Nat.zero_le _, Nat.zero_le _⟩) hS (fun _ h => h) (fun H locs hP hS => ?_)
  refine lv_if_ne (tgt := 9) hx hb dX5_input_4 (by decide) (fun c1 => ?_) (fun c1 => ?_)
  · have ok := ok.2 c1
    refine lv_aload_n hx hb dX5_input_9 rfl (lv_at hl 0 rfl) ?_
    refine va_get (D := D) (ci := 5) (v := .ref (ad 80)) (C := RX5) (T := TX5) (N := 26) hx hb hts inX5 hown hK hP 75 (mq_X isO_75) rfl 4 (by decide) (hts _ k_279) (fun _ h9 => h9) rfl dX5_input_10 ?_
    refine lv_iload_n hx hb dX5_input_13 rfl (lv_at hl 1 rfl) ?_
    have g2 := ok.1
    have ok := ok.2
    refine va_zald hx hb hK hP 80 1 (mq_Z iZ_80) rfl g2 dX5_input_14 ?_
    refine lv_if_eq (tgt := 21) hx hb dX5_input_15 (by decide) (fun c3 => ?_) (fun c3 => ?_)
    · have ok := ok.1 c3
      refine lv_aload_n hx hb dX5_input_21 rfl (lv_at hl 0 rfl) ?_
      refine lv_iload_n hx hb dX5_input_22 rfl (lv_at hl 1 rfl) ?_
      have g4 := ok.1
      have ok := ok.2
      refine q_callp (va_runV (As := [.int x1]) (rest := []) ⟨hx, hb, hml, hown, hts⟩ (c_X_kept0 l D cs ad hi I x1 g4) (cwV 1 hts (gV k_348 k_349 k_437 k_6 k_350) rfl rfl rfl (by decide +kernel) ⟨Nat.le_of_ble_eq_true rfl, Nat.le_of_ble_eq_true rfl⟩) (q_preV hK hP (va_recv hK hP (ci := 5) (q0 := 75) rfl (mq_X isO_75))) rfl rfl hl.1 rfl (lv_room (Nat.le_of_ble_eq_true rfl)) dX5_input_23 ⟨Nat.zero_le _, Nat.zero_le _⟩) hS (fun _ h => h) (fun H locs hP hS => ?_)
      refine lv_bipush (v := 20) hx hb dX5_input_26 (by decide) ?_
      refine lv_icmp_ne (tgt := 36) hx hb dX5_input_28 (by decide) (fun c5 => ?_) (fun c5 => ?_)
      · have ok := ok.2 c5
        refine lv_aload_n hx hb dX5_input_36 rfl (lv_at hl 0 rfl) ?_
        refine lv_iload_n hx hb dX5_input_37 rfl (lv_at hl 1 rfl) ?_
        refine lv_iload_n hx hb dX5_input_38 rfl (lv_at hl 2 rfl) ?_
        refine lv_iconst (v := 3) hx hb dX5_input_39 (by decide) ?_
        have g6 := ok
        refine q_calli (va_runV (As := [.int x1, .int x2, .int 3]) (rest := []) ⟨hx, hb, hml, hown, hts⟩ (c_X_append l D cs ad hi I x1 x2 3 g6) (cwV 3 hts (gV k_351 k_352 k_438 k_6 k_353) rfl rfl rfl (by decide +kernel) ⟨Nat.le_of_ble_eq_true rfl, Nat.le_of_ble_eq_true rfl⟩) (q_preV hK hP (va_recv hK hP (ci := 5) (q0 := 75) rfl (mq_X isO_75))) rfl rfl hl.1 rfl (lv_room (Nat.le_of_ble_eq_true rfl)) dX5_input_40 ⟨Nat.zero_le _, Nat.zero_le _⟩) hS (fun _ h => h) (fun H locs hP hS => ?_)
        exact q_iret hx hb hr hlocks dX5_input_43 hP hS (by rw [f_X_input, if_neg c1, if_pos c3, if_neg c5])
      · have ok := ok.1 c5
        refine lv_bipush (v := (-4)) hx hb dX5_input_31 (by decide) ?_
        refine lv_goto (tgt := 43) hx hb dX5_input_33 (by decide) ?_
        exact q_iret hx hb hr hlocks dX5_input_43 hP hS (by rw [f_X_input, if_neg c1, if_pos c3, if_pos c5])
    · have ok := ok.2 c3
      refine lv_bipush (v := (-2)) hx hb dX5_input_18 (by decide) ?_
      exact q_iret hx hb hr hlocks dX5_input_20 hP hS (by rw [f_X_input, if_neg c1, if_neg c3])
  · have ok := ok.1 c1
    refine lv_iconst (v := (-1)) hx hb dX5_input_7 (by decide) ?_
    exact q_iret hx hb hr hlocks dX5_input_8 hP hS (by rw [f_X_input, if_pos c1])
def m_X_deliver_1 (I : Mm) (x1 x2 : Int32) : Mm := u2 I 90 (((3 * x1) + x2).toNatClampNeg) ((I 90 (((3 * x1) + x2).toNatClampNeg)) + 1)
def f_X_deliver (I : Mm) (x1 x2 : Int32) : Int32 × Mm := (if (f_X_isChannel x1 x2) = 0 then ((-1), I) else (if (I 80 x2.toNatClampNeg) = 0 then (if (I 90 (((3 * x1) + x2).toNatClampNeg)) = (I 89 (((3 * x1) + x2).toNatClampNeg)) then ((-3), I) else (if (f_X_kept0 I x2) = 20 then ((-4), I) else ((f_X_append (m_X_deliver_1 I x1 x2) x2 (I 91 (((8 * ((3 * x1) + x2)) + ((I 90 (((3 * x1) + x2).toNatClampNeg)) - (I 90 (((3 * x1) + x2).toNatClampNeg)) / 8 * 8)).toNatClampNeg)) x1).1, (f_X_append (m_X_deliver_1 I x1 x2) x2 (I 91 (((8 * ((3 * x1) + x2)) + ((I 90 (((3 * x1) + x2).toNatClampNeg)) - (I 90 (((3 * x1) + x2).toNatClampNeg)) / 8 * 8)).toNatClampNeg)) x1).2))) else ((-2), I)))
def ok_X_deliver (I : Mm) (x1 x2 : Int32) : Prop := ((f_X_isChannel x1 x2) = 0 → True) ∧ (¬ (f_X_isChannel x1 x2) = 0 → vp_in x2 3 ∧ (((I 80 x2.toNatClampNeg) = 0 → vp_in ((3 * x1) + x2) 9 ∧ (((I 90 (((3 * x1) + x2).toNatClampNeg)) = (I 89 (((3 * x1) + x2).toNatClampNeg)) → True) ∧ (¬ (I 90 (((3 * x1) + x2).toNatClampNeg)) = (I 89 (((3 * x1) + x2).toNatClampNeg)) → ok_X_kept0 x2 ∧ (((f_X_kept0 I x2) = 20 → True) ∧ (¬ (f_X_kept0 I x2) = 20 → vp_in ((8 * ((3 * x1) + x2)) + ((I 90 (((3 * x1) + x2).toNatClampNeg)) - (I 90 (((3 * x1) + x2).toNatClampNeg)) / 8 * 8)) 72 ∧ (ok_X_append (m_X_deliver_1 I x1 x2) x2 (I 91 (((8 * ((3 * x1) + x2)) + ((I 90 (((3 * x1) + x2).toNatClampNeg)) - (I 90 (((3 * x1) + x2).toNatClampNeg)) / 8 * 8)).toNatClampNeg)) x1)))))) ∧ (¬ (I 80 x2.toNatClampNeg) = 0 → True)))
set_option maxHeartbeats 4000000 in
set_option maxRecDepth 100000 in
theorem c_X_deliver (l : Launch) (D : va_G) (cs : Nat → ClassId) (ad : Nat → Nat) (hi : mi ad) (I : Mm) (x1 x2 : Int32) (ok : ok_X_deliver I x1 x2) : MC l yX5_deliver wX5_deliver { frames := 2, cells := 0, slots := 0, locals := 41 } D cs ad [.ref (ad 75), .int x1, .int x2] I (some (.int (f_X_deliver I x1 x2).1)) (f_X_deliver I x1 x2).2 := by
  unfold ok_X_deliver at ok
  refine q_enter (cc := cX5_deliver) (maxL := 5) (ret := (some .int)) (by decide +kernel) rfl (Nat.le_of_ble_eq_true rfl) ?_
  intro p e s m below meth c ls hx hb hr hml hown hts hlocks hK hP hS hl
  have hown : s.vm.findClass RX5 = some m.cls := hown
  have hts : ∀ w ∈ gtbl, w.before _ s = true := fun w h => hts w (List.mem_cons_of_mem _ h)
  have hl : lv_has ls 5 [(0, .ref (ad 75)), (1, .int x1), (2, .int x2)] := hl
  refine lv_iload_n hx hb dX5_deliver_0 rfl (lv_at hl 1 rfl) ?_
  refine lv_iload_n hx hb dX5_deliver_1 rfl (lv_at hl 2 rfl) ?_
  refine q_callp (va_runS (As := [.int x1, .int x2]) (rest := []) ⟨hx, hb, hml, hown, hts⟩ (c_X_isChannel l D cs ad hi I x1 x2) (va_cwS 2 hts (gS k_335 k_336 k_6 k_337) rfl rfl rfl (by decide +kernel) ⟨Nat.le_of_ble_eq_true rfl, Nat.le_of_ble_eq_true rfl⟩) (q_preS hK hP) rfl rfl hl.1 rfl (lv_room (Nat.le_of_ble_eq_true rfl)) dX5_deliver_2 ⟨Nat.zero_le _, Nat.zero_le _⟩) hS (fun _ h => h) (fun H locs hP hS => ?_)
  refine lv_if_ne (tgt := 10) hx hb dX5_deliver_5 (by decide) (fun c1 => ?_) (fun c1 => ?_)
  · have ok := ok.2 c1
    refine lv_aload_n hx hb dX5_deliver_10 rfl (lv_at hl 0 rfl) ?_
    refine va_get (D := D) (ci := 5) (v := .ref (ad 80)) (C := RX5) (T := TX5) (N := 26) hx hb hts inX5 hown hK hP 75 (mq_X isO_75) rfl 4 (by decide) (hts _ k_279) (fun _ h9 => h9) rfl dX5_deliver_11 ?_
    refine lv_iload_n hx hb dX5_deliver_14 rfl (lv_at hl 2 rfl) ?_
    have g2 := ok.1
    have ok := ok.2
    refine va_zald hx hb hK hP 80 1 (mq_Z iZ_80) rfl g2 dX5_deliver_15 ?_
    refine lv_if_eq (tgt := 22) hx hb dX5_deliver_16 (by decide) (fun c3 => ?_) (fun c3 => ?_)
    · have ok := ok.1 c3
      refine lv_iconst (v := 3) hx hb dX5_deliver_22 (by decide) ?_
      refine lv_iload_n hx hb dX5_deliver_23 rfl (lv_at hl 1 rfl) ?_
      refine lv_imul hx hb dX5_deliver_24 ?_
      refine lv_iload_n hx hb dX5_deliver_25 rfl (lv_at hl 2 rfl) ?_
      refine lv_iadd hx hb dX5_deliver_26 ?_
      refine lv_istore_n (lv' := [(3, .int ((3 * x1) + x2)), (0, .ref (ad 75)), (1, .int x1), (2, .int x2)]) hx hb dX5_deliver_27 rfl hl (by decide) rfl (fun ls hl => ?_)
      refine lv_aload_n hx hb dX5_deliver_28 rfl (lv_at hl 1 rfl) ?_
      refine va_get (D := D) (ci := 5) (v := .ref (ad 90)) (C := RX5) (T := TX5) (N := 26) hx hb hts inX5 hown hK hP 75 (mq_X isO_75) rfl 14 (by decide) (hts _ k_289) (fun _ h9 => h9) rfl dX5_deliver_29 ?_
      refine lv_iload_n hx hb dX5_deliver_32 rfl (lv_at hl 0 rfl) ?_
      have g4 := ok.1
      have ok := ok.2
      refine va_iald hx hb hK hP 90 0 (mq_A iA_90) rfl g4 dX5_deliver_33 ?_
      refine lv_aload_n hx hb dX5_deliver_34 rfl (lv_at hl 1 rfl) ?_
      refine va_get (D := D) (ci := 5) (v := .ref (ad 89)) (C := RX5) (T := TX5) (N := 26) hx hb hts inX5 hown hK hP 75 (mq_X isO_75) rfl 13 (by decide) (hts _ k_288) (fun _ h9 => h9) rfl dX5_deliver_35 ?_
      refine lv_iload_n hx hb dX5_deliver_38 rfl (lv_at hl 0 rfl) ?_
      refine va_iald hx hb hK hP 89 0 (mq_A iA_89) rfl g4 dX5_deliver_39 ?_
      refine lv_icmp_ne (tgt := 46) hx hb dX5_deliver_40 (by decide) (fun c5 => ?_) (fun c5 => ?_)
      · have ok := ok.2 c5
        refine lv_aload_n hx hb dX5_deliver_46 rfl (lv_at hl 1 rfl) ?_
        refine lv_iload_n hx hb dX5_deliver_47 rfl (lv_at hl 3 rfl) ?_
        have g6 := ok.1
        have ok := ok.2
        refine q_callp (va_runV (As := [.int x2]) (rest := []) ⟨hx, hb, hml, hown, hts⟩ (c_X_kept0 l D cs ad hi I x2 g6) (cwV 1 hts (gV k_348 k_349 k_437 k_6 k_350) rfl rfl rfl (by decide +kernel) ⟨Nat.le_of_ble_eq_true rfl, Nat.le_of_ble_eq_true rfl⟩) (q_preV hK hP (va_recv hK hP (ci := 5) (q0 := 75) rfl (mq_X isO_75))) rfl rfl hl.1 rfl (lv_room (Nat.le_of_ble_eq_true rfl)) dX5_deliver_48 ⟨Nat.zero_le _, Nat.zero_le _⟩) hS (fun _ h => h) (fun H locs hP hS => ?_)
        refine lv_bipush (v := 20) hx hb dX5_deliver_51 (by decide) ?_
        refine lv_icmp_ne (tgt := 59) hx hb dX5_deliver_53 (by decide) (fun c7 => ?_) (fun c7 => ?_)
        · have ok := ok.2 c7
          refine lv_aload_n hx hb dX5_deliver_59 rfl (lv_at hl 1 rfl) ?_
          refine va_get (D := D) (ci := 5) (v := .ref (ad 91)) (C := RX5) (T := TX5) (N := 26) hx hb hts inX5 hown hK hP 75 (mq_X isO_75) rfl 15 (by decide) (hts _ k_290) (fun _ h9 => h9) rfl dX5_deliver_60 ?_
          refine lv_bipush (v := 8) hx hb dX5_deliver_63 (by decide) ?_
          refine lv_iload_n hx hb dX5_deliver_65 rfl (lv_at hl 0 rfl) ?_
          refine lv_imul hx hb dX5_deliver_66 ?_
          refine lv_aload_n hx hb dX5_deliver_67 rfl (lv_at hl 1 rfl) ?_
          refine va_get (D := D) (ci := 5) (v := .ref (ad 90)) (C := RX5) (T := TX5) (N := 26) hx hb hts inX5 hown hK hP 75 (mq_X isO_75) rfl 14 (by decide) (hts _ k_289) (fun _ h9 => h9) rfl dX5_deliver_68 ?_
          refine lv_iload_n hx hb dX5_deliver_71 rfl (lv_at hl 0 rfl) ?_
          refine va_iald hx hb hK hP 90 0 (mq_A iA_90) rfl g4 dX5_deliver_72 ?_
          refine lv_bipush (v := 8) hx hb dX5_deliver_73 (by decide) ?_
          refine lv_irem hx hb dX5_deliver_75 (by decide) ?_
          refine lv_iadd hx hb dX5_deliver_76 ?_
          have g8 := ok.1
          have ok := ok.2
          refine va_iald hx hb hK hP 91 0 (mq_A iA_91) rfl g8 dX5_deliver_77 ?_
          refine lv_istore (lv' := [(4, .int (I 91 (((8 * ((3 * x1) + x2)) + ((I 90 (((3 * x1) + x2).toNatClampNeg)) - (I 90 (((3 * x1) + x2).toNatClampNeg)) / 8 * 8)).toNatClampNeg))), (3, .int ((3 * x1) + x2)), (0, .ref (ad 75)), (1, .int x1), (2, .int x2)]) hx hb dX5_deliver_78 hl (by decide) rfl (fun ls hl => ?_)
          refine lv_aload_n hx hb dX5_deliver_80 rfl (lv_at hl 2 rfl) ?_
          refine va_get (D := D) (ci := 5) (v := .ref (ad 90)) (C := RX5) (T := TX5) (N := 26) hx hb hts inX5 hown hK hP 75 (mq_X isO_75) rfl 14 (by decide) (hts _ k_289) (fun _ h9 => h9) rfl dX5_deliver_81 ?_
          refine lv_iload_n hx hb dX5_deliver_84 rfl (lv_at hl 1 rfl) ?_
          refine lv_dup2_11 hx hb dX5_deliver_85 rfl rfl ?_
          refine va_iald hx hb hK hP 90 0 (mq_A iA_90) rfl g4 dX5_deliver_86 ?_
          refine lv_iconst (v := 1) hx hb dX5_deliver_87 (by decide) ?_
          refine lv_iadd hx hb dX5_deliver_88 ?_
          refine va_iast hx hb hK hP (mD hi) hS 90 0 (mq_A iA_90) rfl g4 dX5_deliver_89 (fun H locs hP _ hS => ?_)
          have hP := ms_A iA_90 hP
          have hP : va_P D vwCl (mw 97 ad (gs cs ad (m_X_deliver_1 I x1 x2))) H := hP
          refine lv_aload_n hx hb dX5_deliver_90 rfl (lv_at hl 2 rfl) ?_
          refine lv_iload_n hx hb dX5_deliver_91 rfl (lv_at hl 4 rfl) ?_
          refine lv_iload hx hb dX5_deliver_92 (lv_at hl 0 rfl) ?_
          refine lv_iload_n hx hb dX5_deliver_94 rfl (lv_at hl 3 rfl) ?_
          have g9 := ok
          refine q_calli (va_runV (As := [.int x2, .int (I 91 (((8 * ((3 * x1) + x2)) + ((I 90 (((3 * x1) + x2).toNatClampNeg)) - (I 90 (((3 * x1) + x2).toNatClampNeg)) / 8 * 8)).toNatClampNeg)), .int x1]) (rest := []) ⟨hx, hb, hml, hown, hts⟩ (c_X_append l D cs ad hi (m_X_deliver_1 I x1 x2) x2 (I 91 (((8 * ((3 * x1) + x2)) + ((I 90 (((3 * x1) + x2).toNatClampNeg)) - (I 90 (((3 * x1) + x2).toNatClampNeg)) / 8 * 8)).toNatClampNeg)) x1 g9) (cwV 3 hts (gV k_351 k_352 k_438 k_6 k_353) rfl rfl rfl (by decide +kernel) ⟨Nat.le_of_ble_eq_true rfl, Nat.le_of_ble_eq_true rfl⟩) (q_preV hK hP (va_recv hK hP (ci := 5) (q0 := 75) rfl (mq_X isO_75))) rfl rfl hl.1 rfl (lv_room (Nat.le_of_ble_eq_true rfl)) dX5_deliver_95 ⟨Nat.zero_le _, Nat.zero_le _⟩) hS (fun _ h => h) (fun H locs hP hS => ?_)
          exact q_iret hx hb hr hlocks dX5_deliver_98 hP hS (by rw [f_X_deliver, if_neg c1, if_pos c3, if_neg c5, if_neg c7])
        · have ok := ok.1 c7
          refine lv_bipush (v := (-4)) hx hb dX5_deliver_56 (by decide) ?_
          exact q_iret hx hb hr hlocks dX5_deliver_58 hP hS (by rw [f_X_deliver, if_neg c1, if_pos c3, if_neg c5, if_pos c7])
      · have ok := ok.1 c5
        refine lv_bipush (v := (-3)) hx hb dX5_deliver_43 (by decide) ?_
        exact q_iret hx hb hr hlocks dX5_deliver_45 hP hS (by rw [f_X_deliver, if_neg c1, if_pos c3, if_pos c5])
    · have ok := ok.2 c3
      refine lv_bipush (v := (-2)) hx hb dX5_deliver_19 (by decide) ?_
      exact q_iret hx hb hr hlocks dX5_deliver_21 hP hS (by rw [f_X_deliver, if_neg c1, if_neg c3])
  · have ok := ok.1 c1
    refine lv_iconst (v := (-1)) hx hb dX5_deliver_8 (by decide) ?_
    exact q_iret hx hb hr hlocks dX5_deliver_9 hP hS (by rw [f_X_deliver, if_pos c1])
def m_X_crash_1 (I : Mm) (x1 : Int32) : Mm := u2 I 80 x1.toNatClampNeg (vp_nar .boolean 1)
def f_X_crash (I : Mm) (x1 : Int32) : Int32 × Mm := (if (f_X_isProcess x1) = 0 then (0, I) else (if (I 80 x1.toNatClampNeg) = 0 then (1, (m_X_crash_1 I x1)) else (0, I)))
def ok_X_crash  (x1 : Int32) : Prop := ((f_X_isProcess x1) = 0 → True) ∧ (¬ (f_X_isProcess x1) = 0 → vp_in x1 3)
theorem z_X_crash (I : Mm) (x1 : Int32) : narrow .boolean (.int (f_X_crash I x1).1) = .int (f_X_crash I x1).1 := by
  unfold f_X_crash
  (repeat' split) <;> first | (with_reducible exact nb0 _) | (with_reducible exact nb1 _) | (with_reducible exact zz (z_X_isProcess _))
set_option maxHeartbeats 4000000 in
set_option maxRecDepth 100000 in
theorem c_X_crash (l : Launch) (D : va_G) (cs : Nat → ClassId) (ad : Nat → Nat) (hi : mi ad) (I : Mm) (x1 : Int32) (ok : ok_X_crash x1) : MC l yX5_crash wX5_crash { frames := 1, cells := 0, slots := 0, locals := 20 } D cs ad [.ref (ad 75), .int x1] I (some (.int (f_X_crash I x1).1)) (f_X_crash I x1).2 := by
  unfold ok_X_crash at ok
  refine q_enter (cc := cX5_crash) (maxL := 2) (ret := (some .boolean)) (by decide +kernel) rfl (Nat.le_of_ble_eq_true rfl) ?_
  intro p e s m below meth c ls hx hb hr hml hown hts hlocks hK hP hS hl
  have hown : s.vm.findClass RX5 = some m.cls := hown
  have hts : ∀ w ∈ gtbl, w.before _ s = true := fun w h => hts w (List.mem_cons_of_mem _ h)
  have hl : lv_has ls 2 [(0, .ref (ad 75)), (1, .int x1)] := hl
  refine lv_iload_n hx hb dX5_crash_0 rfl (lv_at hl 1 rfl) ?_
  refine q_callp (va_runS (As := [.int x1]) (rest := []) ⟨hx, hb, hml, hown, hts⟩ (c_X_isProcess l D cs ad hi I x1) (va_cwS 1 hts (gS k_332 k_333 k_6 k_334) rfl rfl rfl (by decide +kernel) ⟨Nat.le_of_ble_eq_true rfl, Nat.le_of_ble_eq_true rfl⟩) (q_preS hK hP) rfl rfl hl.1 rfl (lv_room (Nat.le_of_ble_eq_true rfl)) dX5_crash_1 ⟨Nat.zero_le _, Nat.zero_le _⟩) hS (fun _ h => h) (fun H locs hP hS => ?_)
  refine lv_if_eq (tgt := 16) hx hb dX5_crash_4 (by decide) (fun c1 => ?_) (fun c1 => ?_)
  · have ok := ok.1 c1
    refine lv_iconst (v := 0) hx hb dX5_crash_16 (by decide) ?_
    exact q_zret hx hb hr hlocks dX5_crash_17 hP hS rfl (by rw [f_X_crash, if_pos c1])
  · have ok := ok.2 c1
    refine lv_aload_n hx hb dX5_crash_7 rfl (lv_at hl 0 rfl) ?_
    refine va_get (D := D) (ci := 5) (v := .ref (ad 80)) (C := RX5) (T := TX5) (N := 26) hx hb hts inX5 hown hK hP 75 (mq_X isO_75) rfl 4 (by decide) (hts _ k_279) (fun _ h9 => h9) rfl dX5_crash_8 ?_
    refine lv_iload_n hx hb dX5_crash_11 rfl (lv_at hl 1 rfl) ?_
    have g2 := ok
    refine va_zald hx hb hK hP 80 1 (mq_Z iZ_80) rfl g2 dX5_crash_12 ?_
    refine lv_if_eq (tgt := 18) hx hb dX5_crash_13 (by decide) (fun c3 => ?_) (fun c3 => ?_)
    · have c3 := c3
      refine lv_aload_n hx hb dX5_crash_18 rfl (lv_at hl 0 rfl) ?_
      refine va_get (D := D) (ci := 5) (v := .ref (ad 80)) (C := RX5) (T := TX5) (N := 26) hx hb hts inX5 hown hK hP 75 (mq_X isO_75) rfl 4 (by decide) (hts _ k_279) (fun _ h9 => h9) rfl dX5_crash_19 ?_
      refine lv_iload_n hx hb dX5_crash_22 rfl (lv_at hl 1 rfl) ?_
      refine lv_iconst (v := 1) hx hb dX5_crash_23 (by decide) ?_
      refine va_zast hx hb hK hP (mD hi) hS 80 1 (mq_Z iZ_80) rfl g2 dX5_crash_24 (fun H locs hP _ hS => ?_)
      have hP := ms_Z iZ_80 hP
      have hP : va_P D vwCl (mw 97 ad (gs cs ad (m_X_crash_1 I x1))) H := hP
      refine lv_iconst (v := 1) hx hb dX5_crash_25 (by decide) ?_
      exact q_zret hx hb hr hlocks dX5_crash_26 hP hS rfl (by rw [f_X_crash, if_neg c1, if_pos c3])
    · have c3 := c3
      refine lv_iconst (v := 0) hx hb dX5_crash_16 (by decide) ?_
      exact q_zret hx hb hr hlocks dX5_crash_17 hP hS rfl (by rw [f_X_crash, if_neg c1, if_neg c3])
def m_X_recover_1 (I : Mm) (x1 : Int32) : Mm := u2 I 80 x1.toNatClampNeg (vp_nar .boolean 0)
def m_X_recover_2 (I : Mm) (x1 : Int32) : Mm := u2 (m_X_recover_1 I x1) 81 x1.toNatClampNeg ((m_X_recover_1 I x1) 82 x1.toNatClampNeg)
def f_X_recover (I : Mm) (x1 : Int32) : Int32 × Mm := (if (f_X_isProcess x1) = 0 then ((-1), I) else (if (I 80 x1.toNatClampNeg) = 0 then ((-3), I) else ((f_X_kept0 (m_X_recover_2 I x1) x1), (m_X_recover_2 I x1))))
def ok_X_recover (I : Mm) (x1 : Int32) : Prop := ((f_X_isProcess x1) = 0 → True) ∧ (¬ (f_X_isProcess x1) = 0 → vp_in x1 3 ∧ (((I 80 x1.toNatClampNeg) = 0 → True) ∧ (¬ (I 80 x1.toNatClampNeg) = 0 → ok_X_kept0 x1)))
set_option maxHeartbeats 4000000 in
set_option maxRecDepth 100000 in
theorem c_X_recover (l : Launch) (D : va_G) (cs : Nat → ClassId) (ad : Nat → Nat) (hi : mi ad) (I : Mm) (x1 : Int32) (ok : ok_X_recover I x1) : MC l yX5_recover wX5_recover { frames := 1, cells := 0, slots := 0, locals := 21 } D cs ad [.ref (ad 75), .int x1] I (some (.int (f_X_recover I x1).1)) (f_X_recover I x1).2 := by
  unfold ok_X_recover at ok
  refine q_enter (cc := cX5_recover) (maxL := 2) (ret := (some .int)) (by decide +kernel) rfl (Nat.le_of_ble_eq_true rfl) ?_
  intro p e s m below meth c ls hx hb hr hml hown hts hlocks hK hP hS hl
  have hown : s.vm.findClass RX5 = some m.cls := hown
  have hts : ∀ w ∈ gtbl, w.before _ s = true := fun w h => hts w (List.mem_cons_of_mem _ h)
  have hl : lv_has ls 2 [(0, .ref (ad 75)), (1, .int x1)] := hl
  refine lv_iload_n hx hb dX5_recover_0 rfl (lv_at hl 1 rfl) ?_
  refine q_callp (va_runS (As := [.int x1]) (rest := []) ⟨hx, hb, hml, hown, hts⟩ (c_X_isProcess l D cs ad hi I x1) (va_cwS 1 hts (gS k_332 k_333 k_6 k_334) rfl rfl rfl (by decide +kernel) ⟨Nat.le_of_ble_eq_true rfl, Nat.le_of_ble_eq_true rfl⟩) (q_preS hK hP) rfl rfl hl.1 rfl (lv_room (Nat.le_of_ble_eq_true rfl)) dX5_recover_1 ⟨Nat.zero_le _, Nat.zero_le _⟩) hS (fun _ h => h) (fun H locs hP hS => ?_)
  refine lv_if_ne (tgt := 9) hx hb dX5_recover_4 (by decide) (fun c1 => ?_) (fun c1 => ?_)
  · have ok := ok.2 c1
    refine lv_aload_n hx hb dX5_recover_9 rfl (lv_at hl 0 rfl) ?_
    refine va_get (D := D) (ci := 5) (v := .ref (ad 80)) (C := RX5) (T := TX5) (N := 26) hx hb hts inX5 hown hK hP 75 (mq_X isO_75) rfl 4 (by decide) (hts _ k_279) (fun _ h9 => h9) rfl dX5_recover_10 ?_
    refine lv_iload_n hx hb dX5_recover_13 rfl (lv_at hl 1 rfl) ?_
    have g2 := ok.1
    have ok := ok.2
    refine va_zald hx hb hK hP 80 1 (mq_Z iZ_80) rfl g2 dX5_recover_14 ?_
    refine lv_if_ne (tgt := 21) hx hb dX5_recover_15 (by decide) (fun c3 => ?_) (fun c3 => ?_)
    · have ok := ok.2 c3
      refine lv_aload_n hx hb dX5_recover_21 rfl (lv_at hl 0 rfl) ?_
      refine va_get (D := D) (ci := 5) (v := .ref (ad 80)) (C := RX5) (T := TX5) (N := 26) hx hb hts inX5 hown hK hP 75 (mq_X isO_75) rfl 4 (by decide) (hts _ k_279) (fun _ h9 => h9) rfl dX5_recover_22 ?_
      refine lv_iload_n hx hb dX5_recover_25 rfl (lv_at hl 1 rfl) ?_
      refine lv_iconst (v := 0) hx hb dX5_recover_26 (by decide) ?_
      refine va_zast hx hb hK hP (mD hi) hS 80 1 (mq_Z iZ_80) rfl g2 dX5_recover_27 (fun H locs hP _ hS => ?_)
      have hP := ms_Z iZ_80 hP
      have hP : va_P D vwCl (mw 97 ad (gs cs ad (m_X_recover_1 I x1))) H := hP
      refine lv_aload_n hx hb dX5_recover_28 rfl (lv_at hl 0 rfl) ?_
      refine va_get (D := D) (ci := 5) (v := .ref (ad 81)) (C := RX5) (T := TX5) (N := 26) hx hb hts inX5 hown hK hP 75 (mq_X isO_75) rfl 5 (by decide) (hts _ k_280) (fun _ h9 => h9) rfl dX5_recover_29 ?_
      refine lv_iload_n hx hb dX5_recover_32 rfl (lv_at hl 1 rfl) ?_
      refine lv_aload_n hx hb dX5_recover_33 rfl (lv_at hl 0 rfl) ?_
      refine va_get (D := D) (ci := 5) (v := .ref (ad 82)) (C := RX5) (T := TX5) (N := 26) hx hb hts inX5 hown hK hP 75 (mq_X isO_75) rfl 6 (by decide) (hts _ k_281) (fun _ h9 => h9) rfl dX5_recover_34 ?_
      refine lv_iload_n hx hb dX5_recover_37 rfl (lv_at hl 1 rfl) ?_
      refine va_iald hx hb hK hP 82 0 (mq_A iA_82) rfl g2 dX5_recover_38 ?_
      refine va_iast hx hb hK hP (mD hi) hS 81 0 (mq_A iA_81) rfl g2 dX5_recover_39 (fun H locs hP _ hS => ?_)
      have hP := ms_A iA_81 hP
      have hP : va_P D vwCl (mw 97 ad (gs cs ad (m_X_recover_2 I x1))) H := hP
      refine lv_aload_n hx hb dX5_recover_40 rfl (lv_at hl 0 rfl) ?_
      refine lv_iload_n hx hb dX5_recover_41 rfl (lv_at hl 1 rfl) ?_
      have g4 := ok
      refine q_callp (va_runV (As := [.int x1]) (rest := []) ⟨hx, hb, hml, hown, hts⟩ (c_X_kept0 l D cs ad hi (m_X_recover_2 I x1) x1 g4) (cwV 1 hts (gV k_348 k_349 k_437 k_6 k_350) rfl rfl rfl (by decide +kernel) ⟨Nat.le_of_ble_eq_true rfl, Nat.le_of_ble_eq_true rfl⟩) (q_preV hK hP (va_recv hK hP (ci := 5) (q0 := 75) rfl (mq_X isO_75))) rfl rfl hl.1 rfl (lv_room (Nat.le_of_ble_eq_true rfl)) dX5_recover_42 ⟨Nat.zero_le _, Nat.zero_le _⟩) hS (fun _ h => h) (fun H locs hP hS => ?_)
      exact q_iret hx hb hr hlocks dX5_recover_45 hP hS (by rw [f_X_recover, if_neg c1, if_neg c3])
    · have ok := ok.1 c3
      refine lv_bipush (v := (-3)) hx hb dX5_recover_18 (by decide) ?_
      exact q_iret hx hb hr hlocks dX5_recover_20 hP hS (by rw [f_X_recover, if_neg c1, if_pos c3])
  · have ok := ok.1 c1
    refine lv_iconst (v := (-1)) hx hb dX5_recover_7 (by decide) ?_
    exact q_iret hx hb hr hlocks dX5_recover_8 hP hS (by rw [f_X_recover, if_pos c1])
def f_X_kept (I : Mm) (x1 : Int32) : Int32 := (if (f_X_isProcess x1) = 0 then (-1) else (f_X_kept0 I x1))
def ok_X_kept  (x1 : Int32) : Prop := ((f_X_isProcess x1) = 0 → True) ∧ (¬ (f_X_isProcess x1) = 0 → ok_X_kept0 x1)
set_option maxHeartbeats 4000000 in
set_option maxRecDepth 100000 in
theorem c_X_kept (l : Launch) (D : va_G) (cs : Nat → ClassId) (ad : Nat → Nat) (hi : mi ad) (I : Mm) (x1 : Int32) (ok : ok_X_kept x1) : MC l yX5_kept wX5_kept { frames := 1, cells := 0, slots := 0, locals := 21 } D cs ad [.ref (ad 75), .int x1] I (some (.int (f_X_kept I x1))) I := by
  unfold ok_X_kept at ok
  refine q_enter (cc := cX5_kept) (maxL := 2) (ret := (some .int)) (by decide +kernel) rfl (Nat.le_of_ble_eq_true rfl) ?_
  intro p e s m below meth c ls hx hb hr hml hown hts hlocks hK hP hS hl
  have hown : s.vm.findClass RX5 = some m.cls := hown
  have hts : ∀ w ∈ gtbl, w.before _ s = true := fun w h => hts w (List.mem_cons_of_mem _ h)
  have hl : lv_has ls 2 [(0, .ref (ad 75)), (1, .int x1)] := hl
  refine lv_iload_n hx hb dX5_kept_0 rfl (lv_at hl 1 rfl) ?_
  refine q_callp (va_runS (As := [.int x1]) (rest := []) ⟨hx, hb, hml, hown, hts⟩ (c_X_isProcess l D cs ad hi I x1) (va_cwS 1 hts (gS k_332 k_333 k_6 k_334) rfl rfl rfl (by decide +kernel) ⟨Nat.le_of_ble_eq_true rfl, Nat.le_of_ble_eq_true rfl⟩) (q_preS hK hP) rfl rfl hl.1 rfl (lv_room (Nat.le_of_ble_eq_true rfl)) dX5_kept_1 ⟨Nat.zero_le _, Nat.zero_le _⟩) hS (fun _ h => h) (fun H locs hP hS => ?_)
  refine lv_if_eq (tgt := 15) hx hb dX5_kept_4 (by decide) (fun c1 => ?_) (fun c1 => ?_)
  · have ok := ok.1 c1
    refine lv_iconst (v := (-1)) hx hb dX5_kept_15 (by decide) ?_
    exact q_iretP hx hb hr hlocks dX5_kept_16 hP hS (by rw [f_X_kept, if_pos c1])
  · have ok := ok.2 c1
    refine lv_aload_n hx hb dX5_kept_7 rfl (lv_at hl 0 rfl) ?_
    refine lv_iload_n hx hb dX5_kept_8 rfl (lv_at hl 1 rfl) ?_
    have g2 := ok
    refine q_callp (va_runV (As := [.int x1]) (rest := []) ⟨hx, hb, hml, hown, hts⟩ (c_X_kept0 l D cs ad hi I x1 g2) (cwV 1 hts (gV k_348 k_349 k_437 k_6 k_350) rfl rfl rfl (by decide +kernel) ⟨Nat.le_of_ble_eq_true rfl, Nat.le_of_ble_eq_true rfl⟩) (q_preV hK hP (va_recv hK hP (ci := 5) (q0 := 75) rfl (mq_X isO_75))) rfl rfl hl.1 rfl (lv_room (Nat.le_of_ble_eq_true rfl)) dX5_kept_9 ⟨Nat.zero_le _, Nat.zero_le _⟩) hS (fun _ h => h) (fun H locs hP hS => ?_)
    refine lv_goto (tgt := 16) hx hb dX5_kept_12 (by decide) ?_
    exact q_iretP hx hb hr hlocks dX5_kept_16 hP hS (by rw [f_X_kept, if_neg c1])
def f_X_source (I : Mm) (x1 x2 : Int32) : Int32 := (if (f_X_isProcess x1) = 0 then (-1) else (if x2 ≤ (I 83 x1.toNatClampNeg) then (-3) else (if (I 86 x1.toNatClampNeg) < x2 then (-3) else (I 88 ((((512 * x1) + x2) - 1).toNatClampNeg)))))
def ok_X_source (I : Mm) (x1 x2 : Int32) : Prop := ((f_X_isProcess x1) = 0 → True) ∧ (¬ (f_X_isProcess x1) = 0 → vp_in x1 3 ∧ ((x2 ≤ (I 83 x1.toNatClampNeg) → True) ∧ (¬ x2 ≤ (I 83 x1.toNatClampNeg) → ((I 86 x1.toNatClampNeg) < x2 → True) ∧ (¬ (I 86 x1.toNatClampNeg) < x2 → vp_in (((512 * x1) + x2) - 1) 1536))))
set_option maxHeartbeats 4000000 in
set_option maxRecDepth 100000 in
theorem c_X_source (l : Launch) (D : va_G) (cs : Nat → ClassId) (ad : Nat → Nat) (hi : mi ad) (I : Mm) (x1 x2 : Int32) (ok : ok_X_source I x1 x2) : MC l yX5_source wX5_source { frames := 1, cells := 0, slots := 0, locals := 20 } D cs ad [.ref (ad 75), .int x1, .int x2] I (some (.int (f_X_source I x1 x2))) I := by
  unfold ok_X_source at ok
  refine q_enter (cc := cX5_source) (maxL := 3) (ret := (some .int)) (by decide +kernel) rfl (Nat.le_of_ble_eq_true rfl) ?_
  intro p e s m below meth c ls hx hb hr hml hown hts hlocks hK hP hS hl
  have hown : s.vm.findClass RX5 = some m.cls := hown
  have hts : ∀ w ∈ gtbl, w.before _ s = true := fun w h => hts w (List.mem_cons_of_mem _ h)
  have hl : lv_has ls 3 [(0, .ref (ad 75)), (1, .int x1), (2, .int x2)] := hl
  refine lv_iload_n hx hb dX5_source_0 rfl (lv_at hl 1 rfl) ?_
  refine q_callp (va_runS (As := [.int x1]) (rest := []) ⟨hx, hb, hml, hown, hts⟩ (c_X_isProcess l D cs ad hi I x1) (va_cwS 1 hts (gS k_332 k_333 k_6 k_334) rfl rfl rfl (by decide +kernel) ⟨Nat.le_of_ble_eq_true rfl, Nat.le_of_ble_eq_true rfl⟩) (q_preS hK hP) rfl rfl hl.1 rfl (lv_room (Nat.le_of_ble_eq_true rfl)) dX5_source_1 ⟨Nat.zero_le _, Nat.zero_le _⟩) hS (fun _ h => h) (fun H locs hP hS => ?_)
  refine lv_if_ne (tgt := 9) hx hb dX5_source_4 (by decide) (fun c1 => ?_) (fun c1 => ?_)
  · have ok := ok.2 c1
    refine lv_iload_n hx hb dX5_source_9 rfl (lv_at hl 2 rfl) ?_
    refine lv_aload_n hx hb dX5_source_10 rfl (lv_at hl 0 rfl) ?_
    refine va_get (D := D) (ci := 5) (v := .ref (ad 83)) (C := RX5) (T := TX5) (N := 26) hx hb hts inX5 hown hK hP 75 (mq_X isO_75) rfl 7 (by decide) (hts _ k_282) (fun _ h9 => h9) rfl dX5_source_11 ?_
    refine lv_iload_n hx hb dX5_source_14 rfl (lv_at hl 1 rfl) ?_
    have g2 := ok.1
    have ok := ok.2
    refine va_iald hx hb hK hP 83 0 (mq_A iA_83) rfl g2 dX5_source_15 ?_
    refine lv_icmp_le (tgt := 46) hx hb dX5_source_16 (by decide) (fun c3 => ?_) (fun c3 => ?_)
    · have ok := ok.1 c3
      refine lv_bipush (v := (-3)) hx hb dX5_source_46 (by decide) ?_
      exact q_iretP hx hb hr hlocks dX5_source_48 hP hS (by rw [f_X_source, if_neg c1, if_pos c3])
    · have ok := ok.2 c3
      refine lv_iload_n hx hb dX5_source_19 rfl (lv_at hl 2 rfl) ?_
      refine lv_aload_n hx hb dX5_source_20 rfl (lv_at hl 0 rfl) ?_
      refine va_get (D := D) (ci := 5) (v := .ref (ad 86)) (C := RX5) (T := TX5) (N := 26) hx hb hts inX5 hown hK hP 75 (mq_X isO_75) rfl 10 (by decide) (hts _ k_285) (fun _ h9 => h9) rfl dX5_source_21 ?_
      refine lv_iload_n hx hb dX5_source_24 rfl (lv_at hl 1 rfl) ?_
      refine va_iald hx hb hK hP 86 0 (mq_A iA_86) rfl g2 dX5_source_25 ?_
      refine lv_icmp_gt (tgt := 46) hx hb dX5_source_26 (by decide) (fun c4 => ?_) (fun c4 => ?_)
      · have ok := ok.1 c4
        refine lv_bipush (v := (-3)) hx hb dX5_source_46 (by decide) ?_
        exact q_iretP hx hb hr hlocks dX5_source_48 hP hS (by rw [f_X_source, if_neg c1, if_neg c3, if_pos c4])
      · have ok := ok.2 c4
        refine lv_aload_n hx hb dX5_source_29 rfl (lv_at hl 0 rfl) ?_
        refine va_get (D := D) (ci := 5) (v := .ref (ad 88)) (C := RX5) (T := TX5) (N := 26) hx hb hts inX5 hown hK hP 75 (mq_X isO_75) rfl 12 (by decide) (hts _ k_287) (fun _ h9 => h9) rfl dX5_source_30 ?_
        refine lv_sipush (v := 512) hx hb dX5_source_33 (by decide) ?_
        refine lv_iload_n hx hb dX5_source_36 rfl (lv_at hl 1 rfl) ?_
        refine lv_imul hx hb dX5_source_37 ?_
        refine lv_iload_n hx hb dX5_source_38 rfl (lv_at hl 2 rfl) ?_
        refine lv_iadd hx hb dX5_source_39 ?_
        refine lv_iconst (v := 1) hx hb dX5_source_40 (by decide) ?_
        refine lv_isub hx hb dX5_source_41 ?_
        have g5 := ok
        refine va_iald hx hb hK hP 88 0 (mq_A iA_88) rfl g5 dX5_source_42 ?_
        refine lv_goto (tgt := 48) hx hb dX5_source_43 (by decide) ?_
        exact q_iretP hx hb hr hlocks dX5_source_48 hP hS (by rw [f_X_source, if_neg c1, if_neg c3, if_neg c4])
  · have ok := ok.1 c1
    refine lv_iconst (v := (-1)) hx hb dX5_source_7 (by decide) ?_
    exact q_iretP hx hb hr hlocks dX5_source_8 hP hS (by rw [f_X_source, if_pos c1])
def f_X_waiting (I : Mm) (x1 x2 : Int32) : Int32 := (if (f_X_isChannel x1 x2) = 0 then (-1) else ((I 89 (((3 * x1) + x2).toNatClampNeg)) - (I 90 (((3 * x1) + x2).toNatClampNeg))))
def ok_X_waiting  (x1 x2 : Int32) : Prop := ((f_X_isChannel x1 x2) = 0 → True) ∧ (¬ (f_X_isChannel x1 x2) = 0 → vp_in ((3 * x1) + x2) 9)
set_option maxHeartbeats 4000000 in
set_option maxRecDepth 100000 in
theorem c_X_waiting (l : Launch) (D : va_G) (cs : Nat → ClassId) (ad : Nat → Nat) (hi : mi ad) (I : Mm) (x1 x2 : Int32) (ok : ok_X_waiting x1 x2) : MC l yX5_waiting wX5_waiting { frames := 2, cells := 0, slots := 0, locals := 41 } D cs ad [.ref (ad 75), .int x1, .int x2] I (some (.int (f_X_waiting I x1 x2))) I := by
  unfold ok_X_waiting at ok
  refine q_enter (cc := cX5_waiting) (maxL := 3) (ret := (some .int)) (by decide +kernel) rfl (Nat.le_of_ble_eq_true rfl) ?_
  intro p e s m below meth c ls hx hb hr hml hown hts hlocks hK hP hS hl
  have hown : s.vm.findClass RX5 = some m.cls := hown
  have hts : ∀ w ∈ gtbl, w.before _ s = true := fun w h => hts w (List.mem_cons_of_mem _ h)
  have hl : lv_has ls 3 [(0, .ref (ad 75)), (1, .int x1), (2, .int x2)] := hl
  refine lv_iload_n hx hb dX5_waiting_0 rfl (lv_at hl 1 rfl) ?_
  refine lv_iload_n hx hb dX5_waiting_1 rfl (lv_at hl 2 rfl) ?_
  refine q_callp (va_runS (As := [.int x1, .int x2]) (rest := []) ⟨hx, hb, hml, hown, hts⟩ (c_X_isChannel l D cs ad hi I x1 x2) (va_cwS 2 hts (gS k_335 k_336 k_6 k_337) rfl rfl rfl (by decide +kernel) ⟨Nat.le_of_ble_eq_true rfl, Nat.le_of_ble_eq_true rfl⟩) (q_preS hK hP) rfl rfl hl.1 rfl (lv_room (Nat.le_of_ble_eq_true rfl)) dX5_waiting_2 ⟨Nat.zero_le _, Nat.zero_le _⟩) hS (fun _ h => h) (fun H locs hP hS => ?_)
  refine lv_if_eq (tgt := 32) hx hb dX5_waiting_5 (by decide) (fun c1 => ?_) (fun c1 => ?_)
  · have ok := ok.1 c1
    refine lv_iconst (v := (-1)) hx hb dX5_waiting_32 (by decide) ?_
    exact q_iretP hx hb hr hlocks dX5_waiting_33 hP hS (by rw [f_X_waiting, if_pos c1])
  · have ok := ok.2 c1
    refine lv_aload_n hx hb dX5_waiting_8 rfl (lv_at hl 0 rfl) ?_
    refine va_get (D := D) (ci := 5) (v := .ref (ad 89)) (C := RX5) (T := TX5) (N := 26) hx hb hts inX5 hown hK hP 75 (mq_X isO_75) rfl 13 (by decide) (hts _ k_288) (fun _ h9 => h9) rfl dX5_waiting_9 ?_
    refine lv_iconst (v := 3) hx hb dX5_waiting_12 (by decide) ?_
    refine lv_iload_n hx hb dX5_waiting_13 rfl (lv_at hl 1 rfl) ?_
    refine lv_imul hx hb dX5_waiting_14 ?_
    refine lv_iload_n hx hb dX5_waiting_15 rfl (lv_at hl 2 rfl) ?_
    refine lv_iadd hx hb dX5_waiting_16 ?_
    have g2 := ok
    refine va_iald hx hb hK hP 89 0 (mq_A iA_89) rfl g2 dX5_waiting_17 ?_
    refine lv_aload_n hx hb dX5_waiting_18 rfl (lv_at hl 0 rfl) ?_
    refine va_get (D := D) (ci := 5) (v := .ref (ad 90)) (C := RX5) (T := TX5) (N := 26) hx hb hts inX5 hown hK hP 75 (mq_X isO_75) rfl 14 (by decide) (hts _ k_289) (fun _ h9 => h9) rfl dX5_waiting_19 ?_
    refine lv_iconst (v := 3) hx hb dX5_waiting_22 (by decide) ?_
    refine lv_iload_n hx hb dX5_waiting_23 rfl (lv_at hl 1 rfl) ?_
    refine lv_imul hx hb dX5_waiting_24 ?_
    refine lv_iload_n hx hb dX5_waiting_25 rfl (lv_at hl 2 rfl) ?_
    refine lv_iadd hx hb dX5_waiting_26 ?_
    refine va_iald hx hb hK hP 90 0 (mq_A iA_90) rfl g2 dX5_waiting_27 ?_
    refine lv_isub hx hb dX5_waiting_28 ?_
    refine lv_goto (tgt := 33) hx hb dX5_waiting_29 (by decide) ?_
    exact q_iretP hx hb hr hlocks dX5_waiting_33 hP hS (by rw [f_X_waiting, if_neg c1])
def f_X_held (I : Mm) (x1 : Int32) : Int32 := (if (f_X_isProcess x1) = 0 then (-1) else (I 85 x1.toNatClampNeg))
def ok_X_held  (x1 : Int32) : Prop := ((f_X_isProcess x1) = 0 → True) ∧ (¬ (f_X_isProcess x1) = 0 → vp_in x1 3)
set_option maxHeartbeats 4000000 in
set_option maxRecDepth 100000 in
theorem c_X_held (l : Launch) (D : va_G) (cs : Nat → ClassId) (ad : Nat → Nat) (hi : mi ad) (I : Mm) (x1 : Int32) (ok : ok_X_held x1) : MC l yX5_held wX5_held { frames := 1, cells := 0, slots := 0, locals := 20 } D cs ad [.ref (ad 75), .int x1] I (some (.int (f_X_held I x1))) I := by
  unfold ok_X_held at ok
  refine q_enter (cc := cX5_held) (maxL := 2) (ret := (some .int)) (by decide +kernel) rfl (Nat.le_of_ble_eq_true rfl) ?_
  intro p e s m below meth c ls hx hb hr hml hown hts hlocks hK hP hS hl
  have hown : s.vm.findClass RX5 = some m.cls := hown
  have hts : ∀ w ∈ gtbl, w.before _ s = true := fun w h => hts w (List.mem_cons_of_mem _ h)
  have hl : lv_has ls 2 [(0, .ref (ad 75)), (1, .int x1)] := hl
  refine lv_iload_n hx hb dX5_held_0 rfl (lv_at hl 1 rfl) ?_
  refine q_callp (va_runS (As := [.int x1]) (rest := []) ⟨hx, hb, hml, hown, hts⟩ (c_X_isProcess l D cs ad hi I x1) (va_cwS 1 hts (gS k_332 k_333 k_6 k_334) rfl rfl rfl (by decide +kernel) ⟨Nat.le_of_ble_eq_true rfl, Nat.le_of_ble_eq_true rfl⟩) (q_preS hK hP) rfl rfl hl.1 rfl (lv_room (Nat.le_of_ble_eq_true rfl)) dX5_held_1 ⟨Nat.zero_le _, Nat.zero_le _⟩) hS (fun _ h => h) (fun H locs hP hS => ?_)
  refine lv_if_eq (tgt := 16) hx hb dX5_held_4 (by decide) (fun c1 => ?_) (fun c1 => ?_)
  · have ok := ok.1 c1
    refine lv_iconst (v := (-1)) hx hb dX5_held_16 (by decide) ?_
    exact q_iretP hx hb hr hlocks dX5_held_17 hP hS (by rw [f_X_held, if_pos c1])
  · have ok := ok.2 c1
    refine lv_aload_n hx hb dX5_held_7 rfl (lv_at hl 0 rfl) ?_
    refine va_get (D := D) (ci := 5) (v := .ref (ad 85)) (C := RX5) (T := TX5) (N := 26) hx hb hts inX5 hown hK hP 75 (mq_X isO_75) rfl 9 (by decide) (hts _ k_284) (fun _ h9 => h9) rfl dX5_held_8 ?_
    refine lv_iload_n hx hb dX5_held_11 rfl (lv_at hl 1 rfl) ?_
    have g2 := ok
    refine va_iald hx hb hK hP 85 0 (mq_A iA_85) rfl g2 dX5_held_12 ?_
    refine lv_goto (tgt := 17) hx hb dX5_held_13 (by decide) ?_
    exact q_iretP hx hb hr hlocks dX5_held_17 hP hS (by rw [f_X_held, if_neg c1])
def f_X_outputs (I : Mm) : Int32 := (I 75 0)
set_option maxHeartbeats 4000000 in
set_option maxRecDepth 100000 in
theorem c_X_outputs (l : Launch) (D : va_G) (cs : Nat → ClassId) (ad : Nat → Nat) (hi : mi ad) (I : Mm) : MC l yX5_outputs wX5_outputs { frames := 0, cells := 0, slots := 0, locals := 0 } D cs ad [.ref (ad 75)] I (some (.int (f_X_outputs I))) I := by
  refine q_enter (cc := cX5_outputs) (maxL := 1) (ret := (some .int)) (by decide +kernel) rfl (Nat.le_of_ble_eq_true rfl) ?_
  intro p e s m below meth c ls hx hb hr hml hown hts hlocks hK hP hS hl
  have hown : s.vm.findClass RX5 = some m.cls := hown
  have hts : ∀ w ∈ gtbl, w.before _ s = true := fun w h => hts w (List.mem_cons_of_mem _ h)
  have hl : lv_has ls 1 [(0, .ref (ad 75))] := hl
  refine lv_aload_n hx hb dX5_outputs_0 rfl (lv_at hl 0 rfl) ?_
  refine va_get (D := D) (ci := 5) (v := .int (I 75 0)) (C := RX5) (T := TX5) (N := 26) hx hb hts inX5 hown hK hP 75 (mq_X isO_75) rfl 16 (by decide) (hts _ k_291) (fun _ h9 => h9) rfl dX5_outputs_1 ?_
  exact q_iretP hx hb hr hlocks dX5_outputs_4 hP hS rfl
def f_X_author (I : Mm) (x1 : Int32) : Int32 := (if x1 < 0 then (-1) else (if (I 75 0) ≤ x1 then (-1) else (I 92 x1.toNatClampNeg)))
def ok_X_author (I : Mm) (x1 : Int32) : Prop := (x1 < 0 → True) ∧ (¬ x1 < 0 → ((I 75 0) ≤ x1 → True) ∧ (¬ (I 75 0) ≤ x1 → vp_in x1 60))
set_option maxHeartbeats 4000000 in
set_option maxRecDepth 100000 in
theorem c_X_author (l : Launch) (D : va_G) (cs : Nat → ClassId) (ad : Nat → Nat) (hi : mi ad) (I : Mm) (x1 : Int32) (ok : ok_X_author I x1) : MC l yX5_author wX5_author { frames := 0, cells := 0, slots := 0, locals := 0 } D cs ad [.ref (ad 75), .int x1] I (some (.int (f_X_author I x1))) I := by
  unfold ok_X_author at ok
  refine q_enter (cc := cX5_author) (maxL := 2) (ret := (some .int)) (by decide +kernel) rfl (Nat.le_of_ble_eq_true rfl) ?_
  intro p e s m below meth c ls hx hb hr hml hown hts hlocks hK hP hS hl
  have hown : s.vm.findClass RX5 = some m.cls := hown
  have hts : ∀ w ∈ gtbl, w.before _ s = true := fun w h => hts w (List.mem_cons_of_mem _ h)
  have hl : lv_has ls 2 [(0, .ref (ad 75)), (1, .int x1)] := hl
  refine lv_iload_n hx hb dX5_author_0 rfl (lv_at hl 1 rfl) ?_
  refine lv_if_lt (tgt := 21) hx hb dX5_author_1 (by decide) (fun c1 => ?_) (fun c1 => ?_)
  · have ok := ok.1 c1
    refine lv_iconst (v := (-1)) hx hb dX5_author_21 (by decide) ?_
    exact q_iretP hx hb hr hlocks dX5_author_22 hP hS (by rw [f_X_author, if_pos c1])
  · have ok := ok.2 c1
    refine lv_iload_n hx hb dX5_author_4 rfl (lv_at hl 1 rfl) ?_
    refine lv_aload_n hx hb dX5_author_5 rfl (lv_at hl 0 rfl) ?_
    refine va_get (D := D) (ci := 5) (v := .int (I 75 0)) (C := RX5) (T := TX5) (N := 26) hx hb hts inX5 hown hK hP 75 (mq_X isO_75) rfl 16 (by decide) (hts _ k_291) (fun _ h9 => h9) rfl dX5_author_6 ?_
    refine lv_icmp_ge (tgt := 21) hx hb dX5_author_9 (by decide) (fun c2 => ?_) (fun c2 => ?_)
    · have ok := ok.1 c2
      refine lv_iconst (v := (-1)) hx hb dX5_author_21 (by decide) ?_
      exact q_iretP hx hb hr hlocks dX5_author_22 hP hS (by rw [f_X_author, if_neg c1, if_pos c2])
    · have ok := ok.2 c2
      refine lv_aload_n hx hb dX5_author_12 rfl (lv_at hl 0 rfl) ?_
      refine va_get (D := D) (ci := 5) (v := .ref (ad 92)) (C := RX5) (T := TX5) (N := 26) hx hb hts inX5 hown hK hP 75 (mq_X isO_75) rfl 17 (by decide) (hts _ k_292) (fun _ h9 => h9) rfl dX5_author_13 ?_
      refine lv_iload_n hx hb dX5_author_16 rfl (lv_at hl 1 rfl) ?_
      have g3 := ok
      refine va_iald hx hb hK hP 92 0 (mq_A iA_92) rfl g3 dX5_author_17 ?_
      refine lv_goto (tgt := 22) hx hb dX5_author_18 (by decide) ?_
      exact q_iretP hx hb hr hlocks dX5_author_22 hP hS (by rw [f_X_author, if_neg c1, if_neg c2])
def f_X_output (I : Mm) (x1 : Int32) : Int32 := (if x1 < 0 then 0 else (if (I 75 0) ≤ x1 then 0 else (I 93 x1.toNatClampNeg)))
def ok_X_output (I : Mm) (x1 : Int32) : Prop := (x1 < 0 → True) ∧ (¬ x1 < 0 → ((I 75 0) ≤ x1 → True) ∧ (¬ (I 75 0) ≤ x1 → vp_in x1 60))
set_option maxHeartbeats 4000000 in
set_option maxRecDepth 100000 in
theorem c_X_output (l : Launch) (D : va_G) (cs : Nat → ClassId) (ad : Nat → Nat) (hi : mi ad) (I : Mm) (x1 : Int32) (ok : ok_X_output I x1) : MC l yX5_output wX5_output { frames := 0, cells := 0, slots := 0, locals := 0 } D cs ad [.ref (ad 75), .int x1] I (some (.int (f_X_output I x1))) I := by
  unfold ok_X_output at ok
  refine q_enter (cc := cX5_output) (maxL := 2) (ret := (some .int)) (by decide +kernel) rfl (Nat.le_of_ble_eq_true rfl) ?_
  intro p e s m below meth c ls hx hb hr hml hown hts hlocks hK hP hS hl
  have hown : s.vm.findClass RX5 = some m.cls := hown
  have hts : ∀ w ∈ gtbl, w.before _ s = true := fun w h => hts w (List.mem_cons_of_mem _ h)
  have hl : lv_has ls 2 [(0, .ref (ad 75)), (1, .int x1)] := hl
  refine lv_iload_n hx hb dX5_output_0 rfl (lv_at hl 1 rfl) ?_
  refine lv_if_lt (tgt := 21) hx hb dX5_output_1 (by decide) (fun c1 => ?_) (fun c1 => ?_)
  · have ok := ok.1 c1
    refine lv_iconst (v := 0) hx hb dX5_output_21 (by decide) ?_
    exact q_iretP hx hb hr hlocks dX5_output_22 hP hS (by rw [f_X_output, if_pos c1])
  · have ok := ok.2 c1
    refine lv_iload_n hx hb dX5_output_4 rfl (lv_at hl 1 rfl) ?_
    refine lv_aload_n hx hb dX5_output_5 rfl (lv_at hl 0 rfl) ?_
    refine va_get (D := D) (ci := 5) (v := .int (I 75 0)) (C := RX5) (T := TX5) (N := 26) hx hb hts inX5 hown hK hP 75 (mq_X isO_75) rfl 16 (by decide) (hts _ k_291) (fun _ h9 => h9) rfl dX5_output_6 ?_
    refine lv_icmp_ge (tgt := 21) hx hb dX5_output_9 (by decide) (fun c2 => ?_) (fun c2 => ?_)
    · have ok := ok.1 c2
      refine lv_iconst (v := 0) hx hb dX5_output_21 (by decide) ?_
      exact q_iretP hx hb hr hlocks dX5_output_22 hP hS (by rw [f_X_output, if_neg c1, if_pos c2])
    · have ok := ok.2 c2
      refine lv_aload_n hx hb dX5_output_12 rfl (lv_at hl 0 rfl) ?_
      refine va_get (D := D) (ci := 5) (v := .ref (ad 93)) (C := RX5) (T := TX5) (N := 26) hx hb hts inX5 hown hK hP 75 (mq_X isO_75) rfl 18 (by decide) (hts _ k_293) (fun _ h9 => h9) rfl dX5_output_13 ?_
      refine lv_iload_n hx hb dX5_output_16 rfl (lv_at hl 1 rfl) ?_
      have g3 := ok
      refine va_iald hx hb hK hP 93 0 (mq_A iA_93) rfl g3 dX5_output_17 ?_
      refine lv_goto (tgt := 22) hx hb dX5_output_18 (by decide) ?_
      exact q_iretP hx hb hr hlocks dX5_output_22 hP hS (by rw [f_X_output, if_neg c1, if_neg c2])

def f_G_code (I : Mm) (x1 x2 x3 x4 : Int32) : Int32 × Mm := (if (f_G_isProcess x1) = 0 then (0, I) else (if (f_G_isInstruction x1 x2 x3 x4) = 0 then (0, I) else (if (I (Mb x1) 1) = 0 then (if (f_P_isFull I ((Mb x1) + 1)) = 0 then (1, (f_P_append I ((Mb x1) + 1) x2 x3 x4)) else (0, I)) else (0, I))))
def ok_G_code (I : Mm) (x1 x2 x3 x4 : Int32) : Prop := ((f_G_isProcess x1) = 0 → True) ∧ (¬ (f_G_isProcess x1) = 0 → ((f_G_isInstruction x1 x2 x3 x4) = 0 → True) ∧ (¬ (f_G_isInstruction x1 x2 x3 x4) = 0 → vp_in x1 3 ∧ (((I (Mb x1) 1) = 0 → ((f_P_isFull I ((Mb x1) + 1)) = 0 → ok_P_append I ((Mb x1) + 1) x2 x3 x4) ∧ (¬ (f_P_isFull I ((Mb x1) + 1)) = 0 → True)) ∧ (¬ (I (Mb x1) 1) = 0 → True))))
theorem z_G_code (I : Mm) (x1 x2 x3 x4 : Int32) : narrow .boolean (.int (f_G_code I x1 x2 x3 x4).1) = .int (f_G_code I x1 x2 x3 x4).1 := by
  unfold f_G_code
  (repeat' split) <;> first | (with_reducible exact nb0 _) | (with_reducible exact nb1 _) | (with_reducible exact zz (z_G_isInstruction _ _ _ _)) | (with_reducible exact zz (z_G_isProcess _)) | (with_reducible exact zz (z_P_isFull _ _))
set_option maxHeartbeats 4000000 in
set_option maxRecDepth 100000 in
theorem c_G_code (l : Launch) (D : va_G) (cs : Nat → ClassId) (ad : Nat → Nat) (hi : mi ad) (I : Mm) (x1 x2 x3 x4 : Int32) (ok : ok_G_code I x1 x2 x3 x4) : MC l yX4_code wX4_code { frames := 3, cells := 0, slots := 0, locals := 64 } D cs ad [.ref (ad 0), .int x1, .int x2, .int x3, .int x4] I (some (.int (f_G_code I x1 x2 x3 x4).1)) (f_G_code I x1 x2 x3 x4).2 := by
  unfold ok_G_code at ok
  refine q_enter (cc := cX4_code) (maxL := 6) (ret := (some .boolean)) (by decide +kernel) rfl (Nat.le_of_ble_eq_true rfl) ?_
  intro p e s m below meth c ls hx hb hr hml hown hts hlocks hK hP hS hl
  have hown : s.vm.findClass RX4 = some m.cls := hown
  have hts : ∀ w ∈ gtbl, w.before _ s = true := fun w h => hts w (List.mem_cons_of_mem _ h)
  have hl : lv_has ls 6 [(0, .ref (ad 0)), (1, .int x1), (2, .int x2), (3, .int x3), (4, .int x4)] := hl
  refine lv_iload_n hx hb dX4_code_0 rfl (lv_at hl 1 rfl) ?_
  refine q_callp (va_runS (As := [.int x1]) (rest := []) ⟨hx, hb, hml, hown, hts⟩ (c_G_isProcess l D cs ad hi I x1) (va_cwS 1 hts (gS k_111 k_112 k_1 k_113) rfl rfl rfl (by decide +kernel) ⟨Nat.le_of_ble_eq_true rfl, Nat.le_of_ble_eq_true rfl⟩) (q_preS hK hP) rfl rfl hl.1 rfl (lv_room (Nat.le_of_ble_eq_true rfl)) dX4_code_1 ⟨Nat.zero_le _, Nat.zero_le _⟩) hS (fun _ h => h) (fun H locs hP hS => ?_)
  refine lv_if_eq (tgt := 18) hx hb dX4_code_4 (by decide) (fun c1 => ?_) (fun c1 => ?_)
  · have ok := ok.1 c1
    refine lv_iconst (v := 0) hx hb dX4_code_18 (by decide) ?_
    exact q_zret hx hb hr hlocks dX4_code_19 hP hS rfl (by rw [f_G_code, if_pos c1])
  · have ok := ok.2 c1
    refine lv_iload_n hx hb dX4_code_7 rfl (lv_at hl 1 rfl) ?_
    refine lv_iload_n hx hb dX4_code_8 rfl (lv_at hl 2 rfl) ?_
    refine lv_iload_n hx hb dX4_code_9 rfl (lv_at hl 3 rfl) ?_
    refine lv_iload hx hb dX4_code_10 (lv_at hl 4 rfl) ?_
    refine q_callp (va_runS (As := [.int x1, .int x2, .int x3, .int x4]) (rest := []) ⟨hx, hb, hml, hown, hts⟩ (c_G_isInstruction l D cs ad hi I x1 x2 x3 x4) (va_cwS 4 hts (gS k_114 k_115 k_1 k_116) rfl rfl rfl (by decide +kernel) ⟨Nat.le_of_ble_eq_true rfl, Nat.le_of_ble_eq_true rfl⟩) (q_preS hK hP) rfl rfl hl.1 rfl (lv_room (Nat.le_of_ble_eq_true rfl)) dX4_code_12 ⟨Nat.zero_le _, Nat.zero_le _⟩) hS (fun _ h => h) (fun H locs hP hS => ?_)
    refine lv_if_ne (tgt := 20) hx hb dX4_code_15 (by decide) (fun c2 => ?_) (fun c2 => ?_)
    · have ok := ok.2 c2
      refine lv_aload_n hx hb dX4_code_20 rfl (lv_at hl 0 rfl) ?_
      refine va_get (D := D) (ci := 4) (v := .ref (ad 1)) (C := RX4) (T := TX4) (N := 3) hx hb hts inX4 hown hK hP 0 (mq_G isO_0) rfl 0 (by decide) (hts _ k_101) (fun _ h9 => h9) rfl dX4_code_21 ?_
      refine lv_iload_n hx hb dX4_code_24 rfl (lv_at hl 1 rfl) ?_
      have g3 := ok.1
      have ok := ok.2
      refine q_ldM hx hb hK hP g3 dX4_code_25 ?_
      refine lv_astore (lv' := [(5, .ref (ad (Mb x1))), (0, .ref (ad 0)), (1, .int x1), (2, .int x2), (3, .int x3), (4, .int x4)]) hx hb dX4_code_26 hl (by decide) rfl (fun ls hl => ?_)
      refine lv_aload hx hb dX4_code_28 (lv_at hl 0 rfl) ?_
      refine va_get (D := D) (ci := 0) (v := .int (I (Mb x1) 1)) (C := RX0) (T := TX0) (N := 8) hx hb hts inX0 hown hK hP (Mb x1) (mq_M (isM_O (isM_in g3))) rfl 5 (by decide) (hts _ k_88) (fun _ h9 => h9) rfl dX4_code_30 ?_
      refine lv_if_ne (tgt := 47) hx hb dX4_code_33 (by decide) (fun c4 => ?_) (fun c4 => ?_)
      · have ok := ok.2 c4
        refine lv_iconst (v := 0) hx hb dX4_code_47 (by decide) ?_
        exact q_zret hx hb hr hlocks dX4_code_48 hP hS rfl (by rw [f_G_code, if_neg c1, if_neg c2, if_neg c4])
      · have ok := ok.1 c4
        refine lv_aload hx hb dX4_code_36 (lv_at hl 0 rfl) ?_
        refine va_get (D := D) (ci := 0) (v := .ref (ad ((Mb x1) + 1))) (C := RX0) (T := TX0) (N := 8) hx hb hts inX0 hown hK hP (Mb x1) (mq_M (isM_O (isM_in g3))) rfl 0 (by decide) (hts _ k_79) (fun _ h9 => h9) rfl dX4_code_38 ?_
        refine q_callp (va_runV (As := []) (rest := []) ⟨hx, hb, hml, hown, hts⟩ (c_P_isFull l D cs ad hi (isM_P (isM_in g3)) I) (cwV 0 hts (gV k_123 k_124 k_125 k_3 k_126) rfl rfl rfl (by decide +kernel) ⟨Nat.le_of_ble_eq_true rfl, Nat.le_of_ble_eq_true rfl⟩) (q_preV hK hP (va_recv hK hP (ci := 2) (q0 := ((Mb x1) + 1)) rfl (mq_P (isM_P (isM_in g3)).1))) rfl rfl hl.1 rfl (lv_room (Nat.le_of_ble_eq_true rfl)) dX4_code_41 ⟨Nat.zero_le _, Nat.zero_le _⟩) hS (fun _ h => h) (fun H locs hP hS => ?_)
        refine lv_if_eq (tgt := 49) hx hb dX4_code_44 (by decide) (fun c5 => ?_) (fun c5 => ?_)
        · have ok := ok.1 c5
          refine lv_aload hx hb dX4_code_49 (lv_at hl 0 rfl) ?_
          refine va_get (D := D) (ci := 0) (v := .ref (ad ((Mb x1) + 1))) (C := RX0) (T := TX0) (N := 8) hx hb hts inX0 hown hK hP (Mb x1) (mq_M (isM_O (isM_in g3))) rfl 0 (by decide) (hts _ k_79) (fun _ h9 => h9) rfl dX4_code_51 ?_
          refine lv_iload_n hx hb dX4_code_54 rfl (lv_at hl 3 rfl) ?_
          refine lv_iload_n hx hb dX4_code_55 rfl (lv_at hl 4 rfl) ?_
          refine lv_iload hx hb dX4_code_56 (lv_at hl 5 rfl) ?_
          have g6 := ok
          refine q_callv (va_runV (As := [.int x2, .int x3, .int x4]) (rest := []) ⟨hx, hb, hml, hown, hts⟩ (c_P_append l D cs ad hi (isM_P (isM_in g3)) I x2 x3 x4 g6) (cwV 3 hts (gV k_127 k_128 k_129 k_3 k_130) rfl rfl rfl (by decide +kernel) ⟨Nat.le_of_ble_eq_true rfl, Nat.le_of_ble_eq_true rfl⟩) (q_preV hK hP (va_recv hK hP (ci := 2) (q0 := ((Mb x1) + 1)) rfl (mq_P (isM_P (isM_in g3)).1))) rfl rfl hl.1 rfl (lv_room (Nat.le_of_ble_eq_true rfl)) dX4_code_58 ⟨Nat.zero_le _, Nat.zero_le _⟩) hS (fun _ h => h) (fun H locs hP hS => ?_)
          refine lv_iconst (v := 1) hx hb dX4_code_61 (by decide) ?_
          exact q_zret hx hb hr hlocks dX4_code_62 hP hS rfl (by rw [f_G_code, if_neg c1, if_neg c2, if_pos c4, if_pos c5])
        · have ok := ok.2 c5
          refine lv_iconst (v := 0) hx hb dX4_code_47 (by decide) ?_
          exact q_zret hx hb hr hlocks dX4_code_48 hP hS rfl (by rw [f_G_code, if_neg c1, if_neg c2, if_pos c4, if_neg c5])
    · have ok := ok.1 c2
      refine lv_iconst (v := 0) hx hb dX4_code_18 (by decide) ?_
      exact q_zret hx hb hr hlocks dX4_code_19 hP hS rfl (by rw [f_G_code, if_neg c1, if_pos c2])
def f_G_input (I : Mm) (x1 x2 : Int32) : Int32 × Mm := (if (f_G_isProcess x1) = 0 then ((-1), I) else (if (I (Mb x1) 0) = 0 then ((-2), I) else (if (f_R_isFull I ((Mb x1) + 11) 20) = 0 then ((f_R_append I ((Mb x1) + 11) 20 x2 3).1, (f_R_append I ((Mb x1) + 11) 20 x2 3).2) else ((-4), I))))
def ok_G_input (I : Mm) (x1 x2 : Int32) : Prop := ((f_G_isProcess x1) = 0 → True) ∧ (¬ (f_G_isProcess x1) = 0 → vp_in x1 3 ∧ (((I (Mb x1) 0) = 0 → True) ∧ (¬ (I (Mb x1) 0) = 0 → ((f_R_isFull I ((Mb x1) + 11) 20) = 0 → ok_R_append I ((Mb x1) + 11) 20 x2 3) ∧ (¬ (f_R_isFull I ((Mb x1) + 11) 20) = 0 → True))))
set_option maxHeartbeats 4000000 in
set_option maxRecDepth 100000 in
theorem c_G_input (l : Launch) (D : va_G) (cs : Nat → ClassId) (ad : Nat → Nat) (hi : mi ad) (I : Mm) (x1 x2 : Int32) (ok : ok_G_input I x1 x2) : MC l yX4_input wX4_input { frames := 3, cells := 0, slots := 0, locals := 65 } D cs ad [.ref (ad 0), .int x1, .int x2] I (some (.int (f_G_input I x1 x2).1)) (f_G_input I x1 x2).2 := by
  unfold ok_G_input at ok
  refine q_enter (cc := cX4_input) (maxL := 4) (ret := (some .int)) (by decide +kernel) rfl (Nat.le_of_ble_eq_true rfl) ?_
  intro p e s m below meth c ls hx hb hr hml hown hts hlocks hK hP hS hl
  have hown : s.vm.findClass RX4 = some m.cls := hown
  have hts : ∀ w ∈ gtbl, w.before _ s = true := fun w h => hts w (List.mem_cons_of_mem _ h)
  have hl : lv_has ls 4 [(0, .ref (ad 0)), (1, .int x1), (2, .int x2)] := hl
  refine lv_iload_n hx hb dX4_input_0 rfl (lv_at hl 1 rfl) ?_
  refine q_callp (va_runS (As := [.int x1]) (rest := []) ⟨hx, hb, hml, hown, hts⟩ (c_G_isProcess l D cs ad hi I x1) (va_cwS 1 hts (gS k_111 k_112 k_1 k_113) rfl rfl rfl (by decide +kernel) ⟨Nat.le_of_ble_eq_true rfl, Nat.le_of_ble_eq_true rfl⟩) (q_preS hK hP) rfl rfl hl.1 rfl (lv_room (Nat.le_of_ble_eq_true rfl)) dX4_input_1 ⟨Nat.zero_le _, Nat.zero_le _⟩) hS (fun _ h => h) (fun H locs hP hS => ?_)
  refine lv_if_ne (tgt := 9) hx hb dX4_input_4 (by decide) (fun c1 => ?_) (fun c1 => ?_)
  · have ok := ok.2 c1
    refine lv_aload_n hx hb dX4_input_9 rfl (lv_at hl 0 rfl) ?_
    refine va_get (D := D) (ci := 4) (v := .ref (ad 1)) (C := RX4) (T := TX4) (N := 3) hx hb hts inX4 hown hK hP 0 (mq_G isO_0) rfl 0 (by decide) (hts _ k_101) (fun _ h9 => h9) rfl dX4_input_10 ?_
    refine lv_iload_n hx hb dX4_input_13 rfl (lv_at hl 1 rfl) ?_
    have g2 := ok.1
    have ok := ok.2
    refine q_ldM hx hb hK hP g2 dX4_input_14 ?_
    refine lv_astore_n (lv' := [(3, .ref (ad (Mb x1))), (0, .ref (ad 0)), (1, .int x1), (2, .int x2)]) hx hb dX4_input_15 rfl hl (by decide) rfl (fun ls hl => ?_)
    refine lv_aload_n hx hb dX4_input_16 rfl (lv_at hl 0 rfl) ?_
    refine va_get (D := D) (ci := 0) (v := .int (I (Mb x1) 0)) (C := RX0) (T := TX0) (N := 8) hx hb hts inX0 hown hK hP (Mb x1) (mq_M (isM_O (isM_in g2))) rfl 4 (by decide) (hts _ k_87) (fun _ h9 => h9) rfl dX4_input_17 ?_
    refine lv_if_ne (tgt := 26) hx hb dX4_input_20 (by decide) (fun c3 => ?_) (fun c3 => ?_)
    · have ok := ok.2 c3
      refine lv_aload_n hx hb dX4_input_26 rfl (lv_at hl 0 rfl) ?_
      refine va_get (D := D) (ci := 0) (v := .ref (ad ((Mb x1) + 11))) (C := RX0) (T := TX0) (N := 8) hx hb hts inX0 hown hK hP (Mb x1) (mq_M (isM_O (isM_in g2))) rfl 3 (by decide) (hts _ k_85) (fun _ h9 => h9) rfl dX4_input_27 ?_
      refine q_callp (va_runV (As := []) (rest := []) ⟨hx, hb, hml, hown, hts⟩ (c_R_isFull l D cs ad hi (isM_L (isM_in g2)) I) (cwV 0 hts (gV k_135 k_136 k_137 k_5 k_138) rfl rfl rfl (by decide +kernel) ⟨Nat.le_of_ble_eq_true rfl, Nat.le_of_ble_eq_true rfl⟩) (q_preV hK hP (va_recv hK hP (ci := 1) (q0 := ((Mb x1) + 11)) rfl (mq_R (isM_L (isM_in g2)).1))) rfl rfl hl.1 rfl (lv_room (Nat.le_of_ble_eq_true rfl)) dX4_input_30 ⟨Nat.zero_le _, Nat.zero_le _⟩) hS (fun _ h => h) (fun H locs hP hS => ?_)
      refine lv_if_eq (tgt := 39) hx hb dX4_input_33 (by decide) (fun c4 => ?_) (fun c4 => ?_)
      · have ok := ok.1 c4
        refine lv_aload_n hx hb dX4_input_39 rfl (lv_at hl 0 rfl) ?_
        refine va_get (D := D) (ci := 0) (v := .ref (ad ((Mb x1) + 11))) (C := RX0) (T := TX0) (N := 8) hx hb hts inX0 hown hK hP (Mb x1) (mq_M (isM_O (isM_in g2))) rfl 3 (by decide) (hts _ k_85) (fun _ h9 => h9) rfl dX4_input_40 ?_
        refine lv_iload_n hx hb dX4_input_43 rfl (lv_at hl 3 rfl) ?_
        refine lv_iconst (v := 3) hx hb dX4_input_44 (by decide) ?_
        have g5 := ok
        refine q_calli (va_runV (As := [.int x2, .int 3]) (rest := []) ⟨hx, hb, hml, hown, hts⟩ (c_R_append l D cs ad hi (isM_L (isM_in g2)) I x2 3 g5) (cwV 2 hts (gV k_143 k_144 k_145 k_5 k_146) rfl rfl rfl (by decide +kernel) ⟨Nat.le_of_ble_eq_true rfl, Nat.le_of_ble_eq_true rfl⟩) (q_preV hK hP (va_recv hK hP (ci := 1) (q0 := ((Mb x1) + 11)) rfl (mq_R (isM_L (isM_in g2)).1))) rfl rfl hl.1 rfl (lv_room (Nat.le_of_ble_eq_true rfl)) dX4_input_45 ⟨Nat.zero_le _, Nat.zero_le _⟩) hS (fun _ h => h) (fun H locs hP hS => ?_)
        exact q_iret hx hb hr hlocks dX4_input_48 hP hS (by rw [f_G_input, if_neg c1, if_neg c3, if_pos c4])
      · have ok := ok.2 c4
        refine lv_bipush (v := (-4)) hx hb dX4_input_36 (by decide) ?_
        exact q_iret hx hb hr hlocks dX4_input_38 hP hS (by rw [f_G_input, if_neg c1, if_neg c3, if_neg c4])
    · have ok := ok.1 c3
      refine lv_bipush (v := (-2)) hx hb dX4_input_23 (by decide) ?_
      exact q_iret hx hb hr hlocks dX4_input_25 hP hS (by rw [f_G_input, if_neg c1, if_pos c3])
  · have ok := ok.1 c1
    refine lv_iconst (v := (-1)) hx hb dX4_input_7 (by decide) ?_
    exact q_iret hx hb hr hlocks dX4_input_8 hP hS (by rw [f_G_input, if_pos c1])
def f_G_deliver (I : Mm) (x1 x2 : Int32) : Int32 × Mm := (if (f_G_isChannel x1 x2) = 0 then ((-1), I) else (if (I (Mb x2) 0) = 0 then ((-2), I) else (if (f_R_count I (Cb ((x1 * 3) + x2)) 8) = 0 then ((-3), I) else (if (f_R_isFull I ((Mb x2) + 11) 20) = 0 then ((f_R_append ((f_R_dropThrough I (Cb ((x1 * 3) + x2)) 8 ((I (Cb ((x1 * 3) + x2)) 0) + 1)).2) ((Mb x2) + 11) 20 (f_R_valueAt I (Cb ((x1 * 3) + x2)) 8 ((I (Cb ((x1 * 3) + x2)) 0) + 1)) x1).1, (f_R_append ((f_R_dropThrough I (Cb ((x1 * 3) + x2)) 8 ((I (Cb ((x1 * 3) + x2)) 0) + 1)).2) ((Mb x2) + 11) 20 (f_R_valueAt I (Cb ((x1 * 3) + x2)) 8 ((I (Cb ((x1 * 3) + x2)) 0) + 1)) x1).2) else ((-4), I)))))
def ok_G_deliver (I : Mm) (x1 x2 : Int32) : Prop := ((f_G_isChannel x1 x2) = 0 → True) ∧ (¬ (f_G_isChannel x1 x2) = 0 → vp_in x2 3 ∧ (ok_G_channelBetween x1 x2 ∧ (((I (Mb x2) 0) = 0 → True) ∧ (¬ (I (Mb x2) 0) = 0 → ((f_R_count I (Cb ((x1 * 3) + x2)) 8) = 0 → True) ∧ (¬ (f_R_count I (Cb ((x1 * 3) + x2)) 8) = 0 → ((f_R_isFull I ((Mb x2) + 11) 20) = 0 → ok_R_valueAt (Cb ((x1 * 3) + x2)) 8 ((I (Cb ((x1 * 3) + x2)) 0) + 1) ∧ (ok_R_append ((f_R_dropThrough I (Cb ((x1 * 3) + x2)) 8 ((I (Cb ((x1 * 3) + x2)) 0) + 1)).2) ((Mb x2) + 11) 20 (f_R_valueAt I (Cb ((x1 * 3) + x2)) 8 ((I (Cb ((x1 * 3) + x2)) 0) + 1)) x1)) ∧ (¬ (f_R_isFull I ((Mb x2) + 11) 20) = 0 → True))))))
set_option maxHeartbeats 4000000 in
set_option maxRecDepth 100000 in
theorem c_G_deliver (l : Launch) (D : va_G) (cs : Nat → ClassId) (ad : Nat → Nat) (hi : mi ad) (I : Mm) (x1 x2 : Int32) (ok : ok_G_deliver I x1 x2) : MC l yX4_deliver wX4_deliver { frames := 3, cells := 0, slots := 0, locals := 65 } D cs ad [.ref (ad 0), .int x1, .int x2] I (some (.int (f_G_deliver I x1 x2).1)) (f_G_deliver I x1 x2).2 := by
  unfold ok_G_deliver at ok
  refine q_enter (cc := cX4_deliver) (maxL := 7) (ret := (some .int)) (by decide +kernel) rfl (Nat.le_of_ble_eq_true rfl) ?_
  intro p e s m below meth c ls hx hb hr hml hown hts hlocks hK hP hS hl
  have hown : s.vm.findClass RX4 = some m.cls := hown
  have hts : ∀ w ∈ gtbl, w.before _ s = true := fun w h => hts w (List.mem_cons_of_mem _ h)
  have hl : lv_has ls 7 [(0, .ref (ad 0)), (1, .int x1), (2, .int x2)] := hl
  refine lv_iload_n hx hb dX4_deliver_0 rfl (lv_at hl 1 rfl) ?_
  refine lv_iload_n hx hb dX4_deliver_1 rfl (lv_at hl 2 rfl) ?_
  refine q_callp (va_runS (As := [.int x1, .int x2]) (rest := []) ⟨hx, hb, hml, hown, hts⟩ (c_G_isChannel l D cs ad hi I x1 x2) (va_cwS 2 hts (gS k_120 k_121 k_1 k_122) rfl rfl rfl (by decide +kernel) ⟨Nat.le_of_ble_eq_true rfl, Nat.le_of_ble_eq_true rfl⟩) (q_preS hK hP) rfl rfl hl.1 rfl (lv_room (Nat.le_of_ble_eq_true rfl)) dX4_deliver_2 ⟨Nat.zero_le _, Nat.zero_le _⟩) hS (fun _ h => h) (fun H locs hP hS => ?_)
  refine lv_if_ne (tgt := 10) hx hb dX4_deliver_5 (by decide) (fun c1 => ?_) (fun c1 => ?_)
  · have ok := ok.2 c1
    refine lv_aload_n hx hb dX4_deliver_10 rfl (lv_at hl 0 rfl) ?_
    refine va_get (D := D) (ci := 4) (v := .ref (ad 1)) (C := RX4) (T := TX4) (N := 3) hx hb hts inX4 hown hK hP 0 (mq_G isO_0) rfl 0 (by decide) (hts _ k_101) (fun _ h9 => h9) rfl dX4_deliver_11 ?_
    refine lv_iload_n hx hb dX4_deliver_14 rfl (lv_at hl 2 rfl) ?_
    have g2 := ok.1
    have ok := ok.2
    refine q_ldM hx hb hK hP g2 dX4_deliver_15 ?_
    refine lv_astore_n (lv' := [(3, .ref (ad (Mb x2))), (0, .ref (ad 0)), (1, .int x1), (2, .int x2)]) hx hb dX4_deliver_16 rfl hl (by decide) rfl (fun ls hl => ?_)
    refine lv_aload_n hx hb dX4_deliver_17 rfl (lv_at hl 1 rfl) ?_
    refine lv_iload_n hx hb dX4_deliver_18 rfl (lv_at hl 2 rfl) ?_
    refine lv_iload_n hx hb dX4_deliver_19 rfl (lv_at hl 3 rfl) ?_
    have g3 := ok.1
    have ok := ok.2
    refine q_callr (va_runV (As := [.int x1, .int x2]) (rest := []) ⟨hx, hb, hml, hown, hts⟩ (c_G_channelBetween l D cs ad hi I x1 x2 g3) (cwV 2 hts (gV k_157 k_158 k_431 k_1 k_159) rfl rfl rfl (by decide +kernel) ⟨Nat.le_of_ble_eq_true rfl, Nat.le_of_ble_eq_true rfl⟩) (q_preV hK hP (va_recv hK hP (ci := 4) (q0 := 0) rfl (mq_G isO_0))) rfl rfl hl.1 rfl (lv_room (Nat.le_of_ble_eq_true rfl)) dX4_deliver_20 ⟨Nat.zero_le _, Nat.zero_le _⟩) hS (fun _ h => h) (fun H locs hP hS => ?_)
    refine lv_astore (lv' := [(4, .ref (ad (Cb ((x1 * 3) + x2)))), (3, .ref (ad (Mb x2))), (0, .ref (ad 0)), (1, .int x1), (2, .int x2)]) hx hb dX4_deliver_23 hl (by decide) rfl (fun ls hl => ?_)
    refine lv_aload_n hx hb dX4_deliver_25 rfl (lv_at hl 1 rfl) ?_
    refine va_get (D := D) (ci := 0) (v := .int (I (Mb x2) 0)) (C := RX0) (T := TX0) (N := 8) hx hb hts inX0 hown hK hP (Mb x2) (mq_M (isM_O (isM_in g2))) rfl 4 (by decide) (hts _ k_87) (fun _ h9 => h9) rfl dX4_deliver_26 ?_
    refine lv_if_ne (tgt := 35) hx hb dX4_deliver_29 (by decide) (fun c4 => ?_) (fun c4 => ?_)
    · have ok := ok.2 c4
      refine lv_aload hx hb dX4_deliver_35 (lv_at hl 0 rfl) ?_
      refine q_callp (va_runV (As := []) (rest := []) ⟨hx, hb, hml, hown, hts⟩ (c_R_count l D cs ad hi (isR_in g3) I) (cwV 0 hts (gV k_160 k_140 k_141 k_5 k_142) rfl rfl rfl (by decide +kernel) ⟨Nat.le_of_ble_eq_true rfl, Nat.le_of_ble_eq_true rfl⟩) (q_preV hK hP (va_recv hK hP (ci := 1) (q0 := (Cb ((x1 * 3) + x2))) rfl (mq_R (isR_in g3).1))) rfl rfl hl.1 rfl (lv_room (Nat.le_of_ble_eq_true rfl)) dX4_deliver_37 ⟨Nat.zero_le _, Nat.zero_le _⟩) hS (fun _ h => h) (fun H locs hP hS => ?_)
      refine lv_if_ne (tgt := 46) hx hb dX4_deliver_40 (by decide) (fun c5 => ?_) (fun c5 => ?_)
      · have ok := ok.2 c5
        refine lv_aload_n hx hb dX4_deliver_46 rfl (lv_at hl 1 rfl) ?_
        refine va_get (D := D) (ci := 0) (v := .ref (ad ((Mb x2) + 11))) (C := RX0) (T := TX0) (N := 8) hx hb hts inX0 hown hK hP (Mb x2) (mq_M (isM_O (isM_in g2))) rfl 3 (by decide) (hts _ k_85) (fun _ h9 => h9) rfl dX4_deliver_47 ?_
        refine q_callp (va_runV (As := []) (rest := []) ⟨hx, hb, hml, hown, hts⟩ (c_R_isFull l D cs ad hi (isM_L (isM_in g2)) I) (cwV 0 hts (gV k_135 k_136 k_137 k_5 k_138) rfl rfl rfl (by decide +kernel) ⟨Nat.le_of_ble_eq_true rfl, Nat.le_of_ble_eq_true rfl⟩) (q_preV hK hP (va_recv hK hP (ci := 1) (q0 := ((Mb x2) + 11)) rfl (mq_R (isM_L (isM_in g2)).1))) rfl rfl hl.1 rfl (lv_room (Nat.le_of_ble_eq_true rfl)) dX4_deliver_50 ⟨Nat.zero_le _, Nat.zero_le _⟩) hS (fun _ h => h) (fun H locs hP hS => ?_)
        refine lv_if_eq (tgt := 59) hx hb dX4_deliver_53 (by decide) (fun c6 => ?_) (fun c6 => ?_)
        · have ok := ok.1 c6
          refine lv_aload hx hb dX4_deliver_59 (lv_at hl 0 rfl) ?_
          refine va_get (D := D) (ci := 1) (v := .int (I (Cb ((x1 * 3) + x2)) 0)) (C := RX1) (T := TX1) (N := 4) hx hb hts inX1 hown hK hP (Cb ((x1 * 3) + x2)) (mq_R (isR_in g3).1) rfl 2 (by decide) (hts _ k_71) (fun _ h9 => h9) rfl dX4_deliver_61 ?_
          refine lv_iconst (v := 1) hx hb dX4_deliver_64 (by decide) ?_
          refine lv_iadd hx hb dX4_deliver_65 ?_
          refine lv_istore (lv' := [(5, .int ((I (Cb ((x1 * 3) + x2)) 0) + 1)), (4, .ref (ad (Cb ((x1 * 3) + x2)))), (3, .ref (ad (Mb x2))), (0, .ref (ad 0)), (1, .int x1), (2, .int x2)]) hx hb dX4_deliver_66 hl (by decide) rfl (fun ls hl => ?_)
          refine lv_aload hx hb dX4_deliver_68 (lv_at hl 1 rfl) ?_
          refine lv_iload hx hb dX4_deliver_70 (lv_at hl 0 rfl) ?_
          have g7 := ok.1
          have ok := ok.2
          refine q_callp (va_runV (As := [.int ((I (Cb ((x1 * 3) + x2)) 0) + 1)]) (rest := []) ⟨hx, hb, hml, hown, hts⟩ (c_R_valueAt l D cs ad hi (isR_in g3) I ((I (Cb ((x1 * 3) + x2)) 0) + 1) g7) (cwV 1 hts (gV k_161 k_162 k_163 k_5 k_164) rfl rfl rfl (by decide +kernel) ⟨Nat.le_of_ble_eq_true rfl, Nat.le_of_ble_eq_true rfl⟩) (q_preV hK hP (va_recv hK hP (ci := 1) (q0 := (Cb ((x1 * 3) + x2))) rfl (mq_R (isR_in g3).1))) rfl rfl hl.1 rfl (lv_room (Nat.le_of_ble_eq_true rfl)) dX4_deliver_72 ⟨Nat.zero_le _, Nat.zero_le _⟩) hS (fun _ h => h) (fun H locs hP hS => ?_)
          refine lv_istore (lv' := [(6, .int (f_R_valueAt I (Cb ((x1 * 3) + x2)) 8 ((I (Cb ((x1 * 3) + x2)) 0) + 1))), (5, .int ((I (Cb ((x1 * 3) + x2)) 0) + 1)), (4, .ref (ad (Cb ((x1 * 3) + x2)))), (3, .ref (ad (Mb x2))), (0, .ref (ad 0)), (1, .int x1), (2, .int x2)]) hx hb dX4_deliver_75 hl (by decide) rfl (fun ls hl => ?_)
          refine lv_aload hx hb dX4_deliver_77 (lv_at hl 2 rfl) ?_
          refine lv_iload hx hb dX4_deliver_79 (lv_at hl 1 rfl) ?_
          refine q_calli (va_runV (As := [.int ((I (Cb ((x1 * 3) + x2)) 0) + 1)]) (rest := []) ⟨hx, hb, hml, hown, hts⟩ (c_R_dropThrough l D cs ad hi (isR_in g3) I ((I (Cb ((x1 * 3) + x2)) 0) + 1)) (cwV 1 hts (gV k_165 k_166 k_167 k_5 k_168) rfl rfl rfl (by decide +kernel) ⟨Nat.le_of_ble_eq_true rfl, Nat.le_of_ble_eq_true rfl⟩) (q_preV hK hP (va_recv hK hP (ci := 1) (q0 := (Cb ((x1 * 3) + x2))) rfl (mq_R (isR_in g3).1))) rfl rfl hl.1 rfl (lv_room (Nat.le_of_ble_eq_true rfl)) dX4_deliver_81 ⟨Nat.zero_le _, Nat.zero_le _⟩) hS (fun _ h => h) (fun H locs hP hS => ?_)
          refine lv_pop hx hb dX4_deliver_84 rfl ?_
          refine lv_aload_n hx hb dX4_deliver_85 rfl (lv_at hl 3 rfl) ?_
          refine va_get (D := D) (ci := 0) (v := .ref (ad ((Mb x2) + 11))) (C := RX0) (T := TX0) (N := 8) hx hb hts inX0 hown hK hP (Mb x2) (mq_M (isM_O (isM_in g2))) rfl 3 (by decide) (hts _ k_85) (fun _ h9 => h9) rfl dX4_deliver_86 ?_
          refine lv_iload hx hb dX4_deliver_89 (lv_at hl 0 rfl) ?_
          refine lv_iload_n hx hb dX4_deliver_91 rfl (lv_at hl 5 rfl) ?_
          have g8 := ok
          refine q_calli (va_runV (As := [.int (f_R_valueAt I (Cb ((x1 * 3) + x2)) 8 ((I (Cb ((x1 * 3) + x2)) 0) + 1)), .int x1]) (rest := []) ⟨hx, hb, hml, hown, hts⟩ (c_R_append l D cs ad hi (isM_L (isM_in g2)) ((f_R_dropThrough I (Cb ((x1 * 3) + x2)) 8 ((I (Cb ((x1 * 3) + x2)) 0) + 1)).2) (f_R_valueAt I (Cb ((x1 * 3) + x2)) 8 ((I (Cb ((x1 * 3) + x2)) 0) + 1)) x1 g8) (cwV 2 hts (gV k_143 k_144 k_145 k_5 k_146) rfl rfl rfl (by decide +kernel) ⟨Nat.le_of_ble_eq_true rfl, Nat.le_of_ble_eq_true rfl⟩) (q_preV hK hP (va_recv hK hP (ci := 1) (q0 := ((Mb x2) + 11)) rfl (mq_R (isM_L (isM_in g2)).1))) rfl rfl hl.1 rfl (lv_room (Nat.le_of_ble_eq_true rfl)) dX4_deliver_92 ⟨Nat.zero_le _, Nat.zero_le _⟩) hS (fun _ h => h) (fun H locs hP hS => ?_)
          exact q_iret hx hb hr hlocks dX4_deliver_95 hP hS (by rw [f_G_deliver, if_neg c1, if_neg c4, if_neg c5, if_pos c6])
        · have ok := ok.2 c6
          refine lv_bipush (v := (-4)) hx hb dX4_deliver_56 (by decide) ?_
          exact q_iret hx hb hr hlocks dX4_deliver_58 hP hS (by rw [f_G_deliver, if_neg c1, if_neg c4, if_neg c5, if_neg c6])
      · have ok := ok.1 c5
        refine lv_bipush (v := (-3)) hx hb dX4_deliver_43 (by decide) ?_
        exact q_iret hx hb hr hlocks dX4_deliver_45 hP hS (by rw [f_G_deliver, if_neg c1, if_neg c4, if_pos c5])
    · have ok := ok.1 c4
      refine lv_bipush (v := (-2)) hx hb dX4_deliver_32 (by decide) ?_
      exact q_iret hx hb hr hlocks dX4_deliver_34 hP hS (by rw [f_G_deliver, if_neg c1, if_pos c4])
  · have ok := ok.1 c1
    refine lv_iconst (v := (-1)) hx hb dX4_deliver_8 (by decide) ?_
    exact q_iret hx hb hr hlocks dX4_deliver_9 hP hS (by rw [f_G_deliver, if_pos c1])
def f_G_step (I : Mm) (x1 : Int32) : Int32 × Mm := (if (f_G_isProcess x1) = 0 then ((-1), I) else (if (I (Mb x1) 0) = 0 then ((-2), I) else ((f_G_doNext I x1).1, (f_G_doNext I x1).2)))
def ok_G_step (I : Mm) (x1 : Int32) : Prop := ((f_G_isProcess x1) = 0 → True) ∧ (¬ (f_G_isProcess x1) = 0 → vp_in x1 3 ∧ (((I (Mb x1) 0) = 0 → True) ∧ (¬ (I (Mb x1) 0) = 0 → ok_G_doNext I x1)))
set_option maxHeartbeats 4000000 in
set_option maxRecDepth 100000 in
theorem c_G_step (l : Launch) (D : va_G) (cs : Nat → ClassId) (ad : Nat → Nat) (hi : mi ad) (I : Mm) (x1 : Int32) (ok : ok_G_step I x1) : MC l yX4_step wX4_step { frames := 6, cells := 0, slots := 0, locals := 143 } D cs ad [.ref (ad 0), .int x1] I (some (.int (f_G_step I x1).1)) (f_G_step I x1).2 := by
  unfold ok_G_step at ok
  refine q_enter (cc := cX4_step) (maxL := 2) (ret := (some .int)) (by decide +kernel) rfl (Nat.le_of_ble_eq_true rfl) ?_
  intro p e s m below meth c ls hx hb hr hml hown hts hlocks hK hP hS hl
  have hown : s.vm.findClass RX4 = some m.cls := hown
  have hts : ∀ w ∈ gtbl, w.before _ s = true := fun w h => hts w (List.mem_cons_of_mem _ h)
  have hl : lv_has ls 2 [(0, .ref (ad 0)), (1, .int x1)] := hl
  refine lv_iload_n hx hb dX4_step_0 rfl (lv_at hl 1 rfl) ?_
  refine q_callp (va_runS (As := [.int x1]) (rest := []) ⟨hx, hb, hml, hown, hts⟩ (c_G_isProcess l D cs ad hi I x1) (va_cwS 1 hts (gS k_111 k_112 k_1 k_113) rfl rfl rfl (by decide +kernel) ⟨Nat.le_of_ble_eq_true rfl, Nat.le_of_ble_eq_true rfl⟩) (q_preS hK hP) rfl rfl hl.1 rfl (lv_room (Nat.le_of_ble_eq_true rfl)) dX4_step_1 ⟨Nat.zero_le _, Nat.zero_le _⟩) hS (fun _ h => h) (fun H locs hP hS => ?_)
  refine lv_if_ne (tgt := 9) hx hb dX4_step_4 (by decide) (fun c1 => ?_) (fun c1 => ?_)
  · have ok := ok.2 c1
    refine lv_aload_n hx hb dX4_step_9 rfl (lv_at hl 0 rfl) ?_
    refine va_get (D := D) (ci := 4) (v := .ref (ad 1)) (C := RX4) (T := TX4) (N := 3) hx hb hts inX4 hown hK hP 0 (mq_G isO_0) rfl 0 (by decide) (hts _ k_101) (fun _ h9 => h9) rfl dX4_step_10 ?_
    refine lv_iload_n hx hb dX4_step_13 rfl (lv_at hl 1 rfl) ?_
    have g2 := ok.1
    have ok := ok.2
    refine q_ldM hx hb hK hP g2 dX4_step_14 ?_
    refine va_get (D := D) (ci := 0) (v := .int (I (Mb x1) 0)) (C := RX0) (T := TX0) (N := 8) hx hb hts inX0 hown hK hP (Mb x1) (mq_M (isM_O (isM_in g2))) rfl 4 (by decide) (hts _ k_87) (fun _ h9 => h9) rfl dX4_step_15 ?_
    refine lv_if_ne (tgt := 24) hx hb dX4_step_18 (by decide) (fun c3 => ?_) (fun c3 => ?_)
    · have ok := ok.2 c3
      refine lv_aload_n hx hb dX4_step_24 rfl (lv_at hl 0 rfl) ?_
      refine lv_iload_n hx hb dX4_step_25 rfl (lv_at hl 1 rfl) ?_
      have g4 := ok
      refine q_calli (va_runV (As := [.int x1]) (rest := []) ⟨hx, hb, hml, hown, hts⟩ (c_G_doNext l D cs ad hi I x1 g4) (cwV 1 hts (gV k_173 k_174 k_432 k_1 k_175) rfl rfl rfl (by decide +kernel) ⟨Nat.le_of_ble_eq_true rfl, Nat.le_of_ble_eq_true rfl⟩) (q_preV hK hP (va_recv hK hP (ci := 4) (q0 := 0) rfl (mq_G isO_0))) rfl rfl hl.1 rfl (lv_room (Nat.le_of_ble_eq_true rfl)) dX4_step_26 ⟨Nat.zero_le _, Nat.zero_le _⟩) hS (fun _ h => h) (fun H locs hP hS => ?_)
      exact q_iret hx hb hr hlocks dX4_step_29 hP hS (by rw [f_G_step, if_neg c1, if_neg c3])
    · have ok := ok.1 c3
      refine lv_bipush (v := (-2)) hx hb dX4_step_21 (by decide) ?_
      exact q_iret hx hb hr hlocks dX4_step_23 hP hS (by rw [f_G_step, if_neg c1, if_pos c3])
  · have ok := ok.1 c1
    refine lv_iconst (v := (-1)) hx hb dX4_step_7 (by decide) ?_
    exact q_iret hx hb hr hlocks dX4_step_8 hP hS (by rw [f_G_step, if_pos c1])
def f_G_checkpoint (I : Mm) (x1 : Int32) : Int32 × Mm := (if (f_G_isProcess x1) = 0 then ((-1), I) else (if (I (Mb x1) 0) = 0 then ((-2), I) else ((f_R_dropThrough (f_S_copyFrom I ((Mb x1) + 8) ((Mb x1) + 5)) ((Mb x1) + 11) 20 ((f_S_copyFrom I ((Mb x1) + 8) ((Mb x1) + 5)) ((Mb x1) + 8) 2)).1, (f_R_dropThrough (f_S_copyFrom I ((Mb x1) + 8) ((Mb x1) + 5)) ((Mb x1) + 11) 20 ((f_S_copyFrom I ((Mb x1) + 8) ((Mb x1) + 5)) ((Mb x1) + 8) 2)).2)))
def ok_G_checkpoint  (x1 : Int32) : Prop := ((f_G_isProcess x1) = 0 → True) ∧ (¬ (f_G_isProcess x1) = 0 → vp_in x1 3)
set_option maxHeartbeats 4000000 in
set_option maxRecDepth 100000 in
theorem c_G_checkpoint (l : Launch) (D : va_G) (cs : Nat → ClassId) (ad : Nat → Nat) (hi : mi ad) (I : Mm) (x1 : Int32) (ok : ok_G_checkpoint x1) : MC l yX4_checkpoint wX4_checkpoint { frames := 2, cells := 0, slots := 0, locals := 81 } D cs ad [.ref (ad 0), .int x1] I (some (.int (f_G_checkpoint I x1).1)) (f_G_checkpoint I x1).2 := by
  unfold ok_G_checkpoint at ok
  refine q_enter (cc := cX4_checkpoint) (maxL := 3) (ret := (some .int)) (by decide +kernel) rfl (Nat.le_of_ble_eq_true rfl) ?_
  intro p e s m below meth c ls hx hb hr hml hown hts hlocks hK hP hS hl
  have hown : s.vm.findClass RX4 = some m.cls := hown
  have hts : ∀ w ∈ gtbl, w.before _ s = true := fun w h => hts w (List.mem_cons_of_mem _ h)
  have hl : lv_has ls 3 [(0, .ref (ad 0)), (1, .int x1)] := hl
  refine lv_iload_n hx hb dX4_checkpoint_0 rfl (lv_at hl 1 rfl) ?_
  refine q_callp (va_runS (As := [.int x1]) (rest := []) ⟨hx, hb, hml, hown, hts⟩ (c_G_isProcess l D cs ad hi I x1) (va_cwS 1 hts (gS k_111 k_112 k_1 k_113) rfl rfl rfl (by decide +kernel) ⟨Nat.le_of_ble_eq_true rfl, Nat.le_of_ble_eq_true rfl⟩) (q_preS hK hP) rfl rfl hl.1 rfl (lv_room (Nat.le_of_ble_eq_true rfl)) dX4_checkpoint_1 ⟨Nat.zero_le _, Nat.zero_le _⟩) hS (fun _ h => h) (fun H locs hP hS => ?_)
  refine lv_if_ne (tgt := 9) hx hb dX4_checkpoint_4 (by decide) (fun c1 => ?_) (fun c1 => ?_)
  · have ok := ok.2 c1
    refine lv_aload_n hx hb dX4_checkpoint_9 rfl (lv_at hl 0 rfl) ?_
    refine va_get (D := D) (ci := 4) (v := .ref (ad 1)) (C := RX4) (T := TX4) (N := 3) hx hb hts inX4 hown hK hP 0 (mq_G isO_0) rfl 0 (by decide) (hts _ k_101) (fun _ h9 => h9) rfl dX4_checkpoint_10 ?_
    refine lv_iload_n hx hb dX4_checkpoint_13 rfl (lv_at hl 1 rfl) ?_
    have g2 := ok
    refine q_ldM hx hb hK hP g2 dX4_checkpoint_14 ?_
    refine lv_astore_n (lv' := [(2, .ref (ad (Mb x1))), (0, .ref (ad 0)), (1, .int x1)]) hx hb dX4_checkpoint_15 rfl hl (by decide) rfl (fun ls hl => ?_)
    refine lv_aload_n hx hb dX4_checkpoint_16 rfl (lv_at hl 0 rfl) ?_
    refine va_get (D := D) (ci := 0) (v := .int (I (Mb x1) 0)) (C := RX0) (T := TX0) (N := 8) hx hb hts inX0 hown hK hP (Mb x1) (mq_M (isM_O (isM_in g2))) rfl 4 (by decide) (hts _ k_87) (fun _ h9 => h9) rfl dX4_checkpoint_17 ?_
    refine lv_if_ne (tgt := 26) hx hb dX4_checkpoint_20 (by decide) (fun c3 => ?_) (fun c3 => ?_)
    · have c3 := c3
      refine lv_aload_n hx hb dX4_checkpoint_26 rfl (lv_at hl 0 rfl) ?_
      refine va_get (D := D) (ci := 0) (v := .ref (ad ((Mb x1) + 8))) (C := RX0) (T := TX0) (N := 8) hx hb hts inX0 hown hK hP (Mb x1) (mq_M (isM_O (isM_in g2))) rfl 2 (by decide) (hts _ k_83) (fun _ h9 => h9) rfl dX4_checkpoint_27 ?_
      refine lv_aload_n hx hb dX4_checkpoint_30 rfl (lv_at hl 0 rfl) ?_
      refine va_get (D := D) (ci := 0) (v := .ref (ad ((Mb x1) + 5))) (C := RX0) (T := TX0) (N := 8) hx hb hts inX0 hown hK hP (Mb x1) (mq_M (isM_O (isM_in g2))) rfl 1 (by decide) (hts _ k_81) (fun _ h9 => h9) rfl dX4_checkpoint_31 ?_
      refine q_callv (va_runV (As := [.ref (ad ((Mb x1) + 5))]) (rest := []) ⟨hx, hb, hml, hown, hts⟩ (c_S_copyFrom l D cs ad hi (isM_S (isM_in g2)) (isM_C (isM_in g2)) I) (cwV 1 hts (gV k_211 k_212 k_213 k_4 k_214) rfl rfl rfl (by decide +kernel) ⟨Nat.le_of_ble_eq_true rfl, Nat.le_of_ble_eq_true rfl⟩) (q_preV hK hP (va_recv hK hP (ci := 3) (q0 := ((Mb x1) + 8)) rfl (mq_S (isM_S (isM_in g2)).1))) rfl rfl hl.1 rfl (lv_room (Nat.le_of_ble_eq_true rfl)) dX4_checkpoint_34 ⟨Nat.zero_le _, Nat.zero_le _⟩) hS (fun _ h => h) (fun H locs hP hS => ?_)
      refine lv_aload_n hx hb dX4_checkpoint_37 rfl (lv_at hl 0 rfl) ?_
      refine va_get (D := D) (ci := 0) (v := .ref (ad ((Mb x1) + 11))) (C := RX0) (T := TX0) (N := 8) hx hb hts inX0 hown hK hP (Mb x1) (mq_M (isM_O (isM_in g2))) rfl 3 (by decide) (hts _ k_85) (fun _ h9 => h9) rfl dX4_checkpoint_38 ?_
      refine lv_aload_n hx hb dX4_checkpoint_41 rfl (lv_at hl 0 rfl) ?_
      refine va_get (D := D) (ci := 0) (v := .ref (ad ((Mb x1) + 8))) (C := RX0) (T := TX0) (N := 8) hx hb hts inX0 hown hK hP (Mb x1) (mq_M (isM_O (isM_in g2))) rfl 2 (by decide) (hts _ k_83) (fun _ h9 => h9) rfl dX4_checkpoint_42 ?_
      refine va_get (D := D) (ci := 3) (v := .int ((f_S_copyFrom I ((Mb x1) + 8) ((Mb x1) + 5)) ((Mb x1) + 8) 2)) (C := RX3) (T := TX3) (N := 6) hx hb hts inX3 hown hK hP ((Mb x1) + 8) (mq_S (isM_S (isM_in g2)).1) rfl 4 (by decide) (hts _ k_53) (fun _ h9 => h9) rfl dX4_checkpoint_45 ?_
      refine q_calli (va_runV (As := [.int ((f_S_copyFrom I ((Mb x1) + 8) ((Mb x1) + 5)) ((Mb x1) + 8) 2)]) (rest := []) ⟨hx, hb, hml, hown, hts⟩ (c_R_dropThrough l D cs ad hi (isM_L (isM_in g2)) (f_S_copyFrom I ((Mb x1) + 8) ((Mb x1) + 5)) ((f_S_copyFrom I ((Mb x1) + 8) ((Mb x1) + 5)) ((Mb x1) + 8) 2)) (cwV 1 hts (gV k_165 k_166 k_167 k_5 k_168) rfl rfl rfl (by decide +kernel) ⟨Nat.le_of_ble_eq_true rfl, Nat.le_of_ble_eq_true rfl⟩) (q_preV hK hP (va_recv hK hP (ci := 1) (q0 := ((Mb x1) + 11)) rfl (mq_R (isM_L (isM_in g2)).1))) rfl rfl hl.1 rfl (lv_room (Nat.le_of_ble_eq_true rfl)) dX4_checkpoint_48 ⟨Nat.zero_le _, Nat.zero_le _⟩) hS (fun _ h => h) (fun H locs hP hS => ?_)
      exact q_iret hx hb hr hlocks dX4_checkpoint_51 hP hS (by rw [f_G_checkpoint, if_neg c1, if_neg c3])
    · have c3 := c3
      refine lv_bipush (v := (-2)) hx hb dX4_checkpoint_23 (by decide) ?_
      exact q_iret hx hb hr hlocks dX4_checkpoint_25 hP hS (by rw [f_G_checkpoint, if_neg c1, if_pos c3])
  · have ok := ok.1 c1
    refine lv_iconst (v := (-1)) hx hb dX4_checkpoint_7 (by decide) ?_
    exact q_iret hx hb hr hlocks dX4_checkpoint_8 hP hS (by rw [f_G_checkpoint, if_pos c1])
def m_G_crash_1 (I : Mm) (x1 : Int32) : Mm := u2 I (Mb x1) 0 0
def f_G_crash (I : Mm) (x1 : Int32) : Int32 × Mm := (if (f_G_isProcess x1) = 0 then (0, I) else (if (I (Mb x1) 0) = 0 then (0, I) else (1, (m_G_crash_1 I x1))))
def ok_G_crash  (x1 : Int32) : Prop := ((f_G_isProcess x1) = 0 → True) ∧ (¬ (f_G_isProcess x1) = 0 → vp_in x1 3)
theorem z_G_crash (I : Mm) (x1 : Int32) : narrow .boolean (.int (f_G_crash I x1).1) = .int (f_G_crash I x1).1 := by
  unfold f_G_crash
  (repeat' split) <;> first | (with_reducible exact nb0 _) | (with_reducible exact nb1 _) | (with_reducible exact zz (z_G_isProcess _))
set_option maxHeartbeats 4000000 in
set_option maxRecDepth 100000 in
theorem c_G_crash (l : Launch) (D : va_G) (cs : Nat → ClassId) (ad : Nat → Nat) (hi : mi ad) (I : Mm) (x1 : Int32) (ok : ok_G_crash x1) : MC l yX4_crash wX4_crash { frames := 1, cells := 0, slots := 0, locals := 20 } D cs ad [.ref (ad 0), .int x1] I (some (.int (f_G_crash I x1).1)) (f_G_crash I x1).2 := by
  unfold ok_G_crash at ok
  refine q_enter (cc := cX4_crash) (maxL := 2) (ret := (some .boolean)) (by decide +kernel) rfl (Nat.le_of_ble_eq_true rfl) ?_
  intro p e s m below meth c ls hx hb hr hml hown hts hlocks hK hP hS hl
  have hown : s.vm.findClass RX4 = some m.cls := hown
  have hts : ∀ w ∈ gtbl, w.before _ s = true := fun w h => hts w (List.mem_cons_of_mem _ h)
  have hl : lv_has ls 2 [(0, .ref (ad 0)), (1, .int x1)] := hl
  refine lv_iload_n hx hb dX4_crash_0 rfl (lv_at hl 1 rfl) ?_
  refine q_callp (va_runS (As := [.int x1]) (rest := []) ⟨hx, hb, hml, hown, hts⟩ (c_G_isProcess l D cs ad hi I x1) (va_cwS 1 hts (gS k_111 k_112 k_1 k_113) rfl rfl rfl (by decide +kernel) ⟨Nat.le_of_ble_eq_true rfl, Nat.le_of_ble_eq_true rfl⟩) (q_preS hK hP) rfl rfl hl.1 rfl (lv_room (Nat.le_of_ble_eq_true rfl)) dX4_crash_1 ⟨Nat.zero_le _, Nat.zero_le _⟩) hS (fun _ h => h) (fun H locs hP hS => ?_)
  refine lv_if_eq (tgt := 19) hx hb dX4_crash_4 (by decide) (fun c1 => ?_) (fun c1 => ?_)
  · have ok := ok.1 c1
    refine lv_iconst (v := 0) hx hb dX4_crash_19 (by decide) ?_
    exact q_zret hx hb hr hlocks dX4_crash_20 hP hS rfl (by rw [f_G_crash, if_pos c1])
  · have ok := ok.2 c1
    refine lv_aload_n hx hb dX4_crash_7 rfl (lv_at hl 0 rfl) ?_
    refine va_get (D := D) (ci := 4) (v := .ref (ad 1)) (C := RX4) (T := TX4) (N := 3) hx hb hts inX4 hown hK hP 0 (mq_G isO_0) rfl 0 (by decide) (hts _ k_101) (fun _ h9 => h9) rfl dX4_crash_8 ?_
    refine lv_iload_n hx hb dX4_crash_11 rfl (lv_at hl 1 rfl) ?_
    have g2 := ok
    refine q_ldM hx hb hK hP g2 dX4_crash_12 ?_
    refine va_get (D := D) (ci := 0) (v := .int (I (Mb x1) 0)) (C := RX0) (T := TX0) (N := 8) hx hb hts inX0 hown hK hP (Mb x1) (mq_M (isM_O (isM_in g2))) rfl 4 (by decide) (hts _ k_87) (fun _ h9 => h9) rfl dX4_crash_13 ?_
    refine lv_if_ne (tgt := 21) hx hb dX4_crash_16 (by decide) (fun c3 => ?_) (fun c3 => ?_)
    · have c3 := c3
      refine lv_aload_n hx hb dX4_crash_21 rfl (lv_at hl 0 rfl) ?_
      refine va_get (D := D) (ci := 4) (v := .ref (ad 1)) (C := RX4) (T := TX4) (N := 3) hx hb hts inX4 hown hK hP 0 (mq_G isO_0) rfl 0 (by decide) (hts _ k_101) (fun _ h9 => h9) rfl dX4_crash_22 ?_
      refine lv_iload_n hx hb dX4_crash_25 rfl (lv_at hl 1 rfl) ?_
      refine q_ldM hx hb hK hP g2 dX4_crash_26 ?_
      refine lv_iconst (v := 0) hx hb dX4_crash_27 (by decide) ?_
      refine va_put (D := D) (ci := 0) (v := .int 0) (ty := .boolean) (C := RX0) (T := TX0) (N := 8) hx hb hts inX0 tyX0 tyX0_ok nmX0 hown hK hP (mD hi) hS (Mb x1) (mq_M (isM_O (isM_in g2))) rfl 4 (by decide) (hts _ k_87) (fun _ h9 => h9) rfl (by decide +kernel) rfl rfl (Nat.le_of_ble_eq_true rfl) dX4_crash_28 (fun H locs hP _ hS => ?_)
      have hP := ms_M0 (isM_O (isM_in g2)) hP
      have hP : va_P D vwCl (mw 97 ad (gs cs ad (m_G_crash_1 I x1))) H := hP
      refine lv_iconst (v := 1) hx hb dX4_crash_31 (by decide) ?_
      exact q_zret hx hb hr hlocks dX4_crash_32 hP hS rfl (by rw [f_G_crash, if_neg c1, if_neg c3])
    · have c3 := c3
      refine lv_iconst (v := 0) hx hb dX4_crash_19 (by decide) ?_
      exact q_zret hx hb hr hlocks dX4_crash_20 hP hS rfl (by rw [f_G_crash, if_neg c1, if_pos c3])
def m_G_recover_1 (I : Mm) (x1 : Int32) : Mm := u2 (f_S_copyFrom I ((Mb x1) + 5) ((Mb x1) + 8)) (Mb x1) 0 1
def f_G_recover (I : Mm) (x1 : Int32) : Int32 × Mm := (if (f_G_isProcess x1) = 0 then ((-1), I) else (if (I (Mb x1) 0) = 0 then (((m_G_recover_1 I x1) ((Mb x1) + 11) 1) - ((m_G_recover_1 I x1) ((Mb x1) + 5) 2), (m_G_recover_1 I x1)) else ((-3), I)))
def ok_G_recover  (x1 : Int32) : Prop := ((f_G_isProcess x1) = 0 → True) ∧ (¬ (f_G_isProcess x1) = 0 → vp_in x1 3)
set_option maxHeartbeats 4000000 in
set_option maxRecDepth 100000 in
theorem c_G_recover (l : Launch) (D : va_G) (cs : Nat → ClassId) (ad : Nat → Nat) (hi : mi ad) (I : Mm) (x1 : Int32) (ok : ok_G_recover x1) : MC l yX4_recover wX4_recover { frames := 2, cells := 0, slots := 0, locals := 81 } D cs ad [.ref (ad 0), .int x1] I (some (.int (f_G_recover I x1).1)) (f_G_recover I x1).2 := by
  unfold ok_G_recover at ok
  refine q_enter (cc := cX4_recover) (maxL := 3) (ret := (some .int)) (by decide +kernel) rfl (Nat.le_of_ble_eq_true rfl) ?_
  intro p e s m below meth c ls hx hb hr hml hown hts hlocks hK hP hS hl
  have hown : s.vm.findClass RX4 = some m.cls := hown
  have hts : ∀ w ∈ gtbl, w.before _ s = true := fun w h => hts w (List.mem_cons_of_mem _ h)
  have hl : lv_has ls 3 [(0, .ref (ad 0)), (1, .int x1)] := hl
  refine lv_iload_n hx hb dX4_recover_0 rfl (lv_at hl 1 rfl) ?_
  refine q_callp (va_runS (As := [.int x1]) (rest := []) ⟨hx, hb, hml, hown, hts⟩ (c_G_isProcess l D cs ad hi I x1) (va_cwS 1 hts (gS k_111 k_112 k_1 k_113) rfl rfl rfl (by decide +kernel) ⟨Nat.le_of_ble_eq_true rfl, Nat.le_of_ble_eq_true rfl⟩) (q_preS hK hP) rfl rfl hl.1 rfl (lv_room (Nat.le_of_ble_eq_true rfl)) dX4_recover_1 ⟨Nat.zero_le _, Nat.zero_le _⟩) hS (fun _ h => h) (fun H locs hP hS => ?_)
  refine lv_if_ne (tgt := 9) hx hb dX4_recover_4 (by decide) (fun c1 => ?_) (fun c1 => ?_)
  · have ok := ok.2 c1
    refine lv_aload_n hx hb dX4_recover_9 rfl (lv_at hl 0 rfl) ?_
    refine va_get (D := D) (ci := 4) (v := .ref (ad 1)) (C := RX4) (T := TX4) (N := 3) hx hb hts inX4 hown hK hP 0 (mq_G isO_0) rfl 0 (by decide) (hts _ k_101) (fun _ h9 => h9) rfl dX4_recover_10 ?_
    refine lv_iload_n hx hb dX4_recover_13 rfl (lv_at hl 1 rfl) ?_
    have g2 := ok
    refine q_ldM hx hb hK hP g2 dX4_recover_14 ?_
    refine lv_astore_n (lv' := [(2, .ref (ad (Mb x1))), (0, .ref (ad 0)), (1, .int x1)]) hx hb dX4_recover_15 rfl hl (by decide) rfl (fun ls hl => ?_)
    refine lv_aload_n hx hb dX4_recover_16 rfl (lv_at hl 0 rfl) ?_
    refine va_get (D := D) (ci := 0) (v := .int (I (Mb x1) 0)) (C := RX0) (T := TX0) (N := 8) hx hb hts inX0 hown hK hP (Mb x1) (mq_M (isM_O (isM_in g2))) rfl 4 (by decide) (hts _ k_87) (fun _ h9 => h9) rfl dX4_recover_17 ?_
    refine lv_if_eq (tgt := 26) hx hb dX4_recover_20 (by decide) (fun c3 => ?_) (fun c3 => ?_)
    · have c3 := c3
      refine lv_aload_n hx hb dX4_recover_26 rfl (lv_at hl 0 rfl) ?_
      refine va_get (D := D) (ci := 0) (v := .ref (ad ((Mb x1) + 5))) (C := RX0) (T := TX0) (N := 8) hx hb hts inX0 hown hK hP (Mb x1) (mq_M (isM_O (isM_in g2))) rfl 1 (by decide) (hts _ k_81) (fun _ h9 => h9) rfl dX4_recover_27 ?_
      refine lv_aload_n hx hb dX4_recover_30 rfl (lv_at hl 0 rfl) ?_
      refine va_get (D := D) (ci := 0) (v := .ref (ad ((Mb x1) + 8))) (C := RX0) (T := TX0) (N := 8) hx hb hts inX0 hown hK hP (Mb x1) (mq_M (isM_O (isM_in g2))) rfl 2 (by decide) (hts _ k_83) (fun _ h9 => h9) rfl dX4_recover_31 ?_
      refine q_callv (va_runV (As := [.ref (ad ((Mb x1) + 8))]) (rest := []) ⟨hx, hb, hml, hown, hts⟩ (c_S_copyFrom l D cs ad hi (isM_C (isM_in g2)) (isM_S (isM_in g2)) I) (cwV 1 hts (gV k_211 k_212 k_213 k_4 k_214) rfl rfl rfl (by decide +kernel) ⟨Nat.le_of_ble_eq_true rfl, Nat.le_of_ble_eq_true rfl⟩) (q_preV hK hP (va_recv hK hP (ci := 3) (q0 := ((Mb x1) + 5)) rfl (mq_S (isM_C (isM_in g2)).1))) rfl rfl hl.1 rfl (lv_room (Nat.le_of_ble_eq_true rfl)) dX4_recover_34 ⟨Nat.zero_le _, Nat.zero_le _⟩) hS (fun _ h => h) (fun H locs hP hS => ?_)
      refine lv_aload_n hx hb dX4_recover_37 rfl (lv_at hl 0 rfl) ?_
      refine lv_iconst (v := 1) hx hb dX4_recover_38 (by decide) ?_
      refine va_put (D := D) (ci := 0) (v := .int 1) (ty := .boolean) (C := RX0) (T := TX0) (N := 8) hx hb hts inX0 tyX0 tyX0_ok nmX0 hown hK hP (mD hi) hS (Mb x1) (mq_M (isM_O (isM_in g2))) rfl 4 (by decide) (hts _ k_87) (fun _ h9 => h9) rfl (by decide +kernel) rfl rfl (Nat.le_of_ble_eq_true rfl) dX4_recover_39 (fun H locs hP _ hS => ?_)
      have hP := ms_M0 (isM_O (isM_in g2)) hP
      have hP : va_P D vwCl (mw 97 ad (gs cs ad (m_G_recover_1 I x1))) H := hP
      refine lv_aload_n hx hb dX4_recover_42 rfl (lv_at hl 0 rfl) ?_
      refine va_get (D := D) (ci := 0) (v := .ref (ad ((Mb x1) + 11))) (C := RX0) (T := TX0) (N := 8) hx hb hts inX0 hown hK hP (Mb x1) (mq_M (isM_O (isM_in g2))) rfl 3 (by decide) (hts _ k_85) (fun _ h9 => h9) rfl dX4_recover_43 ?_
      refine va_get (D := D) (ci := 1) (v := .int ((m_G_recover_1 I x1) ((Mb x1) + 11) 1)) (C := RX1) (T := TX1) (N := 4) hx hb hts inX1 hown hK hP ((Mb x1) + 11) (mq_R (isM_L (isM_in g2)).1) rfl 3 (by decide) (hts _ k_73) (fun _ h9 => h9) rfl dX4_recover_46 ?_
      refine lv_aload_n hx hb dX4_recover_49 rfl (lv_at hl 0 rfl) ?_
      refine va_get (D := D) (ci := 0) (v := .ref (ad ((Mb x1) + 5))) (C := RX0) (T := TX0) (N := 8) hx hb hts inX0 hown hK hP (Mb x1) (mq_M (isM_O (isM_in g2))) rfl 1 (by decide) (hts _ k_81) (fun _ h9 => h9) rfl dX4_recover_50 ?_
      refine va_get (D := D) (ci := 3) (v := .int ((m_G_recover_1 I x1) ((Mb x1) + 5) 2)) (C := RX3) (T := TX3) (N := 6) hx hb hts inX3 hown hK hP ((Mb x1) + 5) (mq_S (isM_C (isM_in g2)).1) rfl 4 (by decide) (hts _ k_53) (fun _ h9 => h9) rfl dX4_recover_53 ?_
      refine lv_isub hx hb dX4_recover_56 ?_
      exact q_iret hx hb hr hlocks dX4_recover_57 hP hS (by rw [f_G_recover, if_neg c1, if_pos c3])
    · have c3 := c3
      refine lv_bipush (v := (-3)) hx hb dX4_recover_23 (by decide) ?_
      exact q_iret hx hb hr hlocks dX4_recover_25 hP hS (by rw [f_G_recover, if_neg c1, if_neg c3])
  · have ok := ok.1 c1
    refine lv_iconst (v := (-1)) hx hb dX4_recover_7 (by decide) ?_
    exact q_iret hx hb hr hlocks dX4_recover_8 hP hS (by rw [f_G_recover, if_pos c1])

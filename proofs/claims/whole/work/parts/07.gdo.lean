def f_G_placeAfter (I : Mm) (k2 : Nat) (x2 x3 x4 : Int32) : Int32 := (if x2 = 4 then x3 else (if x2 = 3 then (if (I (k2 + 1) x4.toNatClampNeg) ≤ (I (k2 + 1) x3.toNatClampNeg) then ((I k2 0) + 1) else ((I k2 0) + 2)) else ((I k2 0) + 1)))
def ok_G_placeAfter  (k2 : Nat) (x2 x3 x4 : Int32) : Prop := (x2 = 4 → True) ∧ (¬ x2 = 4 → (x2 = 3 → vp_in x3 4 ∧ (vp_in x4 4)) ∧ (¬ x2 = 3 → True))
set_option maxHeartbeats 4000000 in
set_option maxRecDepth 100000 in
theorem c_G_placeAfter (l : Launch) (D : va_G) (cs : Nat → ClassId) (ad : Nat → Nat) (hi : mi ad) {k2 : Nat} (h2 : isS k2) (I : Mm) (x2 x3 x4 : Int32) (ok : ok_G_placeAfter k2 x2 x3 x4) : MC l yX4_placeAfter wX4_placeAfter { frames := 0, cells := 0, slots := 0, locals := 0 } D cs ad [.ref (ad k2), .int x2, .int x3, .int x4] I (some (.int (f_G_placeAfter I k2 x2 x3 x4))) I := by
  unfold ok_G_placeAfter at ok
  refine q_enter (cc := cX4_placeAfter) (maxL := 4) (ret := (some .int)) (by decide +kernel) rfl (Nat.le_of_ble_eq_true rfl) ?_
  intro p e s m below meth c ls hx hb hr hml hown hts hlocks hK hP hS hl
  have hown : s.vm.findClass RX4 = some m.cls := hown
  have hts : ∀ w ∈ gtbl, w.before _ s = true := fun w h => hts w (List.mem_cons_of_mem _ h)
  have hl : lv_has ls 4 [(0, .ref (ad k2)), (1, .int x2), (2, .int x3), (3, .int x4)] := hl
  refine lv_iload_n hx hb dX4_placeAfter_0 rfl (lv_at hl 1 rfl) ?_
  refine lv_iconst (v := 4) hx hb dX4_placeAfter_1 (by decide) ?_
  refine lv_icmp_ne (tgt := 7) hx hb dX4_placeAfter_2 (by decide) (fun c1 => ?_) (fun c1 => ?_)
  · have ok := ok.2 c1
    refine lv_iload_n hx hb dX4_placeAfter_7 rfl (lv_at hl 1 rfl) ?_
    refine lv_iconst (v := 3) hx hb dX4_placeAfter_8 (by decide) ?_
    refine lv_icmp_ne (tgt := 34) hx hb dX4_placeAfter_9 (by decide) (fun c2 => ?_) (fun c2 => ?_)
    · have ok := ok.2 c2
      refine lv_aload_n hx hb dX4_placeAfter_34 rfl (lv_at hl 0 rfl) ?_
      refine va_get (D := D) (ci := 3) (v := .int (I k2 0)) (C := RX3) (T := TX3) (N := 6) hx hb hts inX3 hown hK hP k2 (mq_S h2.1) rfl 2 (by decide) (hts _ k_49) (fun _ h9 => h9) rfl dX4_placeAfter_35 ?_
      refine lv_iconst (v := 1) hx hb dX4_placeAfter_38 (by decide) ?_
      refine lv_iadd hx hb dX4_placeAfter_39 ?_
      exact q_iretP hx hb hr hlocks dX4_placeAfter_40 hP hS (by rw [f_G_placeAfter, if_neg c1, if_neg c2])
    · have ok := ok.1 c2
      refine lv_aload_n hx hb dX4_placeAfter_12 rfl (lv_at hl 0 rfl) ?_
      refine va_get (D := D) (ci := 3) (v := .ref (ad (k2 + 1))) (C := RX3) (T := TX3) (N := 6) hx hb hts inX3 hown hK hP k2 (mq_S h2.1) rfl 0 (by decide) (hts _ k_45) (fun _ h9 => h9) rfl dX4_placeAfter_13 ?_
      refine lv_iload_n hx hb dX4_placeAfter_16 rfl (lv_at hl 2 rfl) ?_
      have g3 := ok.1
      have ok := ok.2
      refine va_iald hx hb hK hP (k2 + 1) 0 (mq_A h2.2.1) rfl g3 dX4_placeAfter_17 ?_
      refine lv_aload_n hx hb dX4_placeAfter_18 rfl (lv_at hl 0 rfl) ?_
      refine va_get (D := D) (ci := 3) (v := .ref (ad (k2 + 1))) (C := RX3) (T := TX3) (N := 6) hx hb hts inX3 hown hK hP k2 (mq_S h2.1) rfl 0 (by decide) (hts _ k_45) (fun _ h9 => h9) rfl dX4_placeAfter_19 ?_
      refine lv_iload_n hx hb dX4_placeAfter_22 rfl (lv_at hl 3 rfl) ?_
      have g4 := ok
      refine va_iald hx hb hK hP (k2 + 1) 0 (mq_A h2.2.1) rfl g4 dX4_placeAfter_23 ?_
      refine lv_icmp_ge (tgt := 34) hx hb dX4_placeAfter_24 (by decide) (fun c5 => ?_) (fun c5 => ?_)
      · have c5 := c5
        refine lv_aload_n hx hb dX4_placeAfter_34 rfl (lv_at hl 0 rfl) ?_
        refine va_get (D := D) (ci := 3) (v := .int (I k2 0)) (C := RX3) (T := TX3) (N := 6) hx hb hts inX3 hown hK hP k2 (mq_S h2.1) rfl 2 (by decide) (hts _ k_49) (fun _ h9 => h9) rfl dX4_placeAfter_35 ?_
        refine lv_iconst (v := 1) hx hb dX4_placeAfter_38 (by decide) ?_
        refine lv_iadd hx hb dX4_placeAfter_39 ?_
        exact q_iretP hx hb hr hlocks dX4_placeAfter_40 hP hS (by rw [f_G_placeAfter, if_neg c1, if_pos c2, if_pos c5])
      · have c5 := c5
        refine lv_aload_n hx hb dX4_placeAfter_27 rfl (lv_at hl 0 rfl) ?_
        refine va_get (D := D) (ci := 3) (v := .int (I k2 0)) (C := RX3) (T := TX3) (N := 6) hx hb hts inX3 hown hK hP k2 (mq_S h2.1) rfl 2 (by decide) (hts _ k_49) (fun _ h9 => h9) rfl dX4_placeAfter_28 ?_
        refine lv_iconst (v := 2) hx hb dX4_placeAfter_31 (by decide) ?_
        refine lv_iadd hx hb dX4_placeAfter_32 ?_
        exact q_iretP hx hb hr hlocks dX4_placeAfter_33 hP hS (by rw [f_G_placeAfter, if_neg c1, if_pos c2, if_neg c5])
  · have ok := ok.1 c1
    refine lv_iload_n hx hb dX4_placeAfter_5 rfl (lv_at hl 2 rfl) ?_
    exact q_iretP hx hb hr hlocks dX4_placeAfter_6 hP hS (by rw [f_G_placeAfter, if_pos c1])
def m_G_trySend_1 (I : Mm) (x1 x2 x3 : Int32) : Mm := u2 ((f_R_append I (Cb ((x1 * 3) + x2)) 8 x3 x1).2) (((Mb x1) + 5) + 2) x2.toNatClampNeg ((((f_R_append I (Cb ((x1 * 3) + x2)) 8 x3 x1).2) (((Mb x1) + 5) + 2) x2.toNatClampNeg) + 1)
def m_G_trySend_2 (I : Mm) (x1 x2 x3 : Int32) : Mm := u2 I (Mb x1) 3 ((I (Mb x1) 3) + 1)
def m_G_trySend_3 (I : Mm) (x1 x2 x3 : Int32) : Mm := u2 (m_G_trySend_2 I x1 x2 x3) (((Mb x1) + 5) + 2) x2.toNatClampNeg (((m_G_trySend_2 I x1 x2 x3) (((Mb x1) + 5) + 2) x2.toNatClampNeg) + 1)
def f_G_trySend (I : Mm) (x1 x2 x3 : Int32) : Int32 × Mm := (if (I (Cb ((x1 * 3) + x2)) 1) ≤ (I (((Mb x1) + 5) + 2) x2.toNatClampNeg) then (if (f_R_isFull I (Cb ((x1 * 3) + x2)) 8) = 0 then (1, (m_G_trySend_1 I x1 x2 x3)) else (0, I)) else (1, (m_G_trySend_3 I x1 x2 x3)))
def ok_G_trySend (I : Mm) (x1 x2 x3 : Int32) : Prop := vp_in x1 3 ∧ (ok_G_channelBetween x1 x2 ∧ (vp_in x2 3 ∧ (((I (Cb ((x1 * 3) + x2)) 1) ≤ (I (((Mb x1) + 5) + 2) x2.toNatClampNeg) → ((f_R_isFull I (Cb ((x1 * 3) + x2)) 8) = 0 → ok_R_append I (Cb ((x1 * 3) + x2)) 8 x3 x1) ∧ (¬ (f_R_isFull I (Cb ((x1 * 3) + x2)) 8) = 0 → True)) ∧ (¬ (I (Cb ((x1 * 3) + x2)) 1) ≤ (I (((Mb x1) + 5) + 2) x2.toNatClampNeg) → True))))
theorem z_G_trySend (I : Mm) (x1 x2 x3 : Int32) : narrow .boolean (.int (f_G_trySend I x1 x2 x3).1) = .int (f_G_trySend I x1 x2 x3).1 := by
  unfold f_G_trySend
  (repeat' split) <;> first | (with_reducible exact nb0 _) | (with_reducible exact nb1 _) | (with_reducible exact zz (z_R_isFull _ _ _))
set_option maxHeartbeats 4000000 in
set_option maxRecDepth 100000 in
theorem c_G_trySend (l : Launch) (D : va_G) (cs : Nat → ClassId) (ad : Nat → Nat) (hi : mi ad) (I : Mm) (x1 x2 x3 : Int32) (ok : ok_G_trySend I x1 x2 x3) : MC l yX4_trySend wX4_trySend { frames := 3, cells := 0, slots := 0, locals := 65 } D cs ad [.ref (ad 0), .int x1, .int x2, .int x3] I (some (.int (f_G_trySend I x1 x2 x3).1)) (f_G_trySend I x1 x2 x3).2 := by
  unfold ok_G_trySend at ok
  refine q_enter (cc := cX4_trySend) (maxL := 6) (ret := (some .boolean)) (by decide +kernel) rfl (Nat.le_of_ble_eq_true rfl) ?_
  intro p e s m below meth c ls hx hb hr hml hown hts hlocks hK hP hS hl
  have hown : s.vm.findClass RX4 = some m.cls := hown
  have hts : ∀ w ∈ gtbl, w.before _ s = true := fun w h => hts w (List.mem_cons_of_mem _ h)
  have hl : lv_has ls 6 [(0, .ref (ad 0)), (1, .int x1), (2, .int x2), (3, .int x3)] := hl
  refine lv_aload_n hx hb dX4_trySend_0 rfl (lv_at hl 0 rfl) ?_
  refine va_get (D := D) (ci := 4) (v := .ref (ad 1)) (C := RX4) (T := TX4) (N := 3) hx hb hts inX4 hown hK hP 0 (mq_G isO_0) rfl 0 (by decide) (hts _ k_101) (fun _ h9 => h9) rfl dX4_trySend_1 ?_
  refine lv_iload_n hx hb dX4_trySend_4 rfl (lv_at hl 1 rfl) ?_
  have g1 := ok.1
  have ok := ok.2
  refine q_ldM hx hb hK hP g1 dX4_trySend_5 ?_
  refine lv_astore (lv' := [(4, .ref (ad (Mb x1))), (0, .ref (ad 0)), (1, .int x1), (2, .int x2), (3, .int x3)]) hx hb dX4_trySend_6 hl (by decide) rfl (fun ls hl => ?_)
  refine lv_aload_n hx hb dX4_trySend_8 rfl (lv_at hl 1 rfl) ?_
  refine lv_iload_n hx hb dX4_trySend_9 rfl (lv_at hl 2 rfl) ?_
  refine lv_iload_n hx hb dX4_trySend_10 rfl (lv_at hl 3 rfl) ?_
  have g2 := ok.1
  have ok := ok.2
  refine q_callr (va_runV (As := [.int x1, .int x2]) (rest := []) ⟨hx, hb, hml, hown, hts⟩ (c_G_channelBetween l D cs ad hi I x1 x2 g2) (cwV 2 hts (gV k_157 k_158 k_431 k_1 k_159) rfl rfl rfl (by decide +kernel) ⟨Nat.le_of_ble_eq_true rfl, Nat.le_of_ble_eq_true rfl⟩) (q_preV hK hP (va_recv hK hP (ci := 4) (q0 := 0) rfl (mq_G isO_0))) rfl rfl hl.1 rfl (lv_room (Nat.le_of_ble_eq_true rfl)) dX4_trySend_11 ⟨Nat.zero_le _, Nat.zero_le _⟩) hS (fun _ h => h) (fun H locs hP hS => ?_)
  refine lv_astore (lv' := [(5, .ref (ad (Cb ((x1 * 3) + x2)))), (4, .ref (ad (Mb x1))), (0, .ref (ad 0)), (1, .int x1), (2, .int x2), (3, .int x3)]) hx hb dX4_trySend_14 hl (by decide) rfl (fun ls hl => ?_)
  refine lv_aload hx hb dX4_trySend_16 (lv_at hl 1 rfl) ?_
  refine va_get (D := D) (ci := 0) (v := .ref (ad ((Mb x1) + 5))) (C := RX0) (T := TX0) (N := 8) hx hb hts inX0 hown hK hP (Mb x1) (mq_M (isM_O (isM_in g1))) rfl 1 (by decide) (hts _ k_81) (fun _ h9 => h9) rfl dX4_trySend_18 ?_
  refine va_get (D := D) (ci := 3) (v := .ref (ad (((Mb x1) + 5) + 2))) (C := RX3) (T := TX3) (N := 6) hx hb hts inX3 hown hK hP ((Mb x1) + 5) (mq_S (isM_C (isM_in g1)).1) rfl 1 (by decide) (hts _ k_47) (fun _ h9 => h9) rfl dX4_trySend_21 ?_
  refine lv_iload_n hx hb dX4_trySend_24 rfl (lv_at hl 4 rfl) ?_
  have g3 := ok.1
  have ok := ok.2
  refine va_iald hx hb hK hP (((Mb x1) + 5) + 2) 0 (mq_A (isM_C (isM_in g1)).2.2) rfl g3 dX4_trySend_25 ?_
  refine lv_aload hx hb dX4_trySend_26 (lv_at hl 0 rfl) ?_
  refine va_get (D := D) (ci := 1) (v := .int (I (Cb ((x1 * 3) + x2)) 1)) (C := RX1) (T := TX1) (N := 4) hx hb hts inX1 hown hK hP (Cb ((x1 * 3) + x2)) (mq_R (isR_in g2).1) rfl 3 (by decide) (hts _ k_73) (fun _ h9 => h9) rfl dX4_trySend_28 ?_
  refine lv_icmp_ge (tgt := 48) hx hb dX4_trySend_31 (by decide) (fun c4 => ?_) (fun c4 => ?_)
  · have ok := ok.1 c4
    refine lv_aload hx hb dX4_trySend_48 (lv_at hl 0 rfl) ?_
    refine q_callp (va_runV (As := []) (rest := []) ⟨hx, hb, hml, hown, hts⟩ (c_R_isFull l D cs ad hi (isR_in g2) I) (cwV 0 hts (gV k_135 k_136 k_137 k_5 k_138) rfl rfl rfl (by decide +kernel) ⟨Nat.le_of_ble_eq_true rfl, Nat.le_of_ble_eq_true rfl⟩) (q_preV hK hP (va_recv hK hP (ci := 1) (q0 := (Cb ((x1 * 3) + x2))) rfl (mq_R (isR_in g2).1))) rfl rfl hl.1 rfl (lv_room (Nat.le_of_ble_eq_true rfl)) dX4_trySend_50 ⟨Nat.zero_le _, Nat.zero_le _⟩) hS (fun _ h => h) (fun H locs hP hS => ?_)
    refine lv_if_eq (tgt := 58) hx hb dX4_trySend_53 (by decide) (fun c5 => ?_) (fun c5 => ?_)
    · have ok := ok.1 c5
      refine lv_aload hx hb dX4_trySend_58 (lv_at hl 0 rfl) ?_
      refine lv_iload_n hx hb dX4_trySend_60 rfl (lv_at hl 5 rfl) ?_
      refine lv_iload_n hx hb dX4_trySend_61 rfl (lv_at hl 3 rfl) ?_
      have g6 := ok
      refine q_calli (va_runV (As := [.int x3, .int x1]) (rest := []) ⟨hx, hb, hml, hown, hts⟩ (c_R_append l D cs ad hi (isR_in g2) I x3 x1 g6) (cwV 2 hts (gV k_143 k_144 k_145 k_5 k_146) rfl rfl rfl (by decide +kernel) ⟨Nat.le_of_ble_eq_true rfl, Nat.le_of_ble_eq_true rfl⟩) (q_preV hK hP (va_recv hK hP (ci := 1) (q0 := (Cb ((x1 * 3) + x2))) rfl (mq_R (isR_in g2).1))) rfl rfl hl.1 rfl (lv_room (Nat.le_of_ble_eq_true rfl)) dX4_trySend_62 ⟨Nat.zero_le _, Nat.zero_le _⟩) hS (fun _ h => h) (fun H locs hP hS => ?_)
      refine lv_pop hx hb dX4_trySend_65 rfl ?_
      refine lv_aload hx hb dX4_trySend_66 (lv_at hl 1 rfl) ?_
      refine va_get (D := D) (ci := 0) (v := .ref (ad ((Mb x1) + 5))) (C := RX0) (T := TX0) (N := 8) hx hb hts inX0 hown hK hP (Mb x1) (mq_M (isM_O (isM_in g1))) rfl 1 (by decide) (hts _ k_81) (fun _ h9 => h9) rfl dX4_trySend_68 ?_
      refine va_get (D := D) (ci := 3) (v := .ref (ad (((Mb x1) + 5) + 2))) (C := RX3) (T := TX3) (N := 6) hx hb hts inX3 hown hK hP ((Mb x1) + 5) (mq_S (isM_C (isM_in g1)).1) rfl 1 (by decide) (hts _ k_47) (fun _ h9 => h9) rfl dX4_trySend_71 ?_
      refine lv_iload_n hx hb dX4_trySend_74 rfl (lv_at hl 4 rfl) ?_
      refine lv_dup2_11 hx hb dX4_trySend_75 rfl rfl ?_
      refine va_iald hx hb hK hP (((Mb x1) + 5) + 2) 0 (mq_A (isM_C (isM_in g1)).2.2) rfl g3 dX4_trySend_76 ?_
      refine lv_iconst (v := 1) hx hb dX4_trySend_77 (by decide) ?_
      refine lv_iadd hx hb dX4_trySend_78 ?_
      refine va_iast hx hb hK hP (mD hi) hS (((Mb x1) + 5) + 2) 0 (mq_A (isM_C (isM_in g1)).2.2) rfl g3 dX4_trySend_79 (fun H locs hP _ hS => ?_)
      have hP := ms_A (isM_C (isM_in g1)).2.2 hP
      have hP : va_P D vwCl (mw 97 ad (gs cs ad (m_G_trySend_1 I x1 x2 x3))) H := hP
      refine lv_iconst (v := 1) hx hb dX4_trySend_80 (by decide) ?_
      exact q_zret hx hb hr hlocks dX4_trySend_81 hP hS rfl (by rw [f_G_trySend, if_pos c4, if_pos c5])
    · have ok := ok.2 c5
      refine lv_iconst (v := 0) hx hb dX4_trySend_56 (by decide) ?_
      exact q_zret hx hb hr hlocks dX4_trySend_57 hP hS rfl (by rw [f_G_trySend, if_pos c4, if_neg c5])
  · have ok := ok.2 c4
    refine lv_aload hx hb dX4_trySend_34 (lv_at hl 1 rfl) ?_
    refine lv_dup hx hb dX4_trySend_36 rfl ?_
    refine va_get (D := D) (ci := 0) (v := .int (I (Mb x1) 3)) (C := RX0) (T := TX0) (N := 8) hx hb hts inX0 hown hK hP (Mb x1) (mq_M (isM_O (isM_in g1))) rfl 7 (by decide) (hts _ k_90) (fun _ h9 => h9) rfl dX4_trySend_37 ?_
    refine lv_iconst (v := 1) hx hb dX4_trySend_40 (by decide) ?_
    refine lv_iadd hx hb dX4_trySend_41 ?_
    refine va_put (D := D) (ci := 0) (v := .int ((I (Mb x1) 3) + 1)) (ty := .int) (C := RX0) (T := TX0) (N := 8) hx hb hts inX0 tyX0 tyX0_ok nmX0 hown hK hP (mD hi) hS (Mb x1) (mq_M (isM_O (isM_in g1))) rfl 7 (by decide) (hts _ k_90) (fun _ h9 => h9) rfl (by decide +kernel) rfl rfl (Nat.le_of_ble_eq_true rfl) dX4_trySend_42 (fun H locs hP _ hS => ?_)
    have hP := ms_M3 (isM_O (isM_in g1)) hP
    have hP : va_P D vwCl (mw 97 ad (gs cs ad (m_G_trySend_2 I x1 x2 x3))) H := hP
    refine lv_goto (tgt := 66) hx hb dX4_trySend_45 (by decide) ?_
    refine lv_aload hx hb dX4_trySend_66 (lv_at hl 1 rfl) ?_
    refine va_get (D := D) (ci := 0) (v := .ref (ad ((Mb x1) + 5))) (C := RX0) (T := TX0) (N := 8) hx hb hts inX0 hown hK hP (Mb x1) (mq_M (isM_O (isM_in g1))) rfl 1 (by decide) (hts _ k_81) (fun _ h9 => h9) rfl dX4_trySend_68 ?_
    refine va_get (D := D) (ci := 3) (v := .ref (ad (((Mb x1) + 5) + 2))) (C := RX3) (T := TX3) (N := 6) hx hb hts inX3 hown hK hP ((Mb x1) + 5) (mq_S (isM_C (isM_in g1)).1) rfl 1 (by decide) (hts _ k_47) (fun _ h9 => h9) rfl dX4_trySend_71 ?_
    refine lv_iload_n hx hb dX4_trySend_74 rfl (lv_at hl 4 rfl) ?_
    refine lv_dup2_11 hx hb dX4_trySend_75 rfl rfl ?_
    refine va_iald hx hb hK hP (((Mb x1) + 5) + 2) 0 (mq_A (isM_C (isM_in g1)).2.2) rfl g3 dX4_trySend_76 ?_
    refine lv_iconst (v := 1) hx hb dX4_trySend_77 (by decide) ?_
    refine lv_iadd hx hb dX4_trySend_78 ?_
    refine va_iast hx hb hK hP (mD hi) hS (((Mb x1) + 5) + 2) 0 (mq_A (isM_C (isM_in g1)).2.2) rfl g3 dX4_trySend_79 (fun H locs hP _ hS => ?_)
    have hP := ms_A (isM_C (isM_in g1)).2.2 hP
    have hP : va_P D vwCl (mw 97 ad (gs cs ad (m_G_trySend_3 I x1 x2 x3))) H := hP
    refine lv_iconst (v := 1) hx hb dX4_trySend_80 (by decide) ?_
    exact q_zret hx hb hr hlocks dX4_trySend_81 hP hS rfl (by rw [f_G_trySend, if_neg c4])
def m_G_tryReceive_1 (I : Mm) (x1 x2 x3 : Int32) : Mm := u2 I (((Mb x1) + 5) + 1) x3.toNatClampNeg (f_R_originAt I ((Mb x1) + 11) 20 ((I ((Mb x1) + 5) 2) + 1))
def m_G_tryReceive_2 (I : Mm) (x1 x2 x3 : Int32) : Mm := u2 (m_G_tryReceive_1 I x1 x2 x3) (((Mb x1) + 5) + 1) x2.toNatClampNeg (f_R_valueAt (m_G_tryReceive_1 I x1 x2 x3) ((Mb x1) + 11) 20 ((I ((Mb x1) + 5) 2) + 1))
def m_G_tryReceive_3 (I : Mm) (x1 x2 x3 : Int32) : Mm := u2 (m_G_tryReceive_2 I x1 x2 x3) ((Mb x1) + 5) 2 ((I ((Mb x1) + 5) 2) + 1)
def f_G_tryReceive (I : Mm) (x1 x2 x3 : Int32) : Int32 × Mm := (if (f_R_has I ((Mb x1) + 11) 20 ((I ((Mb x1) + 5) 2) + 1)) = 0 then (0, I) else (1, (m_G_tryReceive_3 I x1 x2 x3)))
def ok_G_tryReceive (I : Mm) (x1 x2 x3 : Int32) : Prop := vp_in x1 3 ∧ (((f_R_has I ((Mb x1) + 11) 20 ((I ((Mb x1) + 5) 2) + 1)) = 0 → True) ∧ (¬ (f_R_has I ((Mb x1) + 11) 20 ((I ((Mb x1) + 5) 2) + 1)) = 0 → ok_R_originAt ((Mb x1) + 11) 20 ((I ((Mb x1) + 5) 2) + 1) ∧ (vp_in x3 4 ∧ (ok_R_valueAt ((Mb x1) + 11) 20 ((I ((Mb x1) + 5) 2) + 1) ∧ (vp_in x2 4)))))
theorem z_G_tryReceive (I : Mm) (x1 x2 x3 : Int32) : narrow .boolean (.int (f_G_tryReceive I x1 x2 x3).1) = .int (f_G_tryReceive I x1 x2 x3).1 := by
  unfold f_G_tryReceive
  (repeat' split) <;> first | (with_reducible exact nb0 _) | (with_reducible exact nb1 _) | (with_reducible exact zz (z_R_has _ _ _ _))
set_option maxHeartbeats 4000000 in
set_option maxRecDepth 100000 in
theorem c_G_tryReceive (l : Launch) (D : va_G) (cs : Nat → ClassId) (ad : Nat → Nat) (hi : mi ad) (I : Mm) (x1 x2 x3 : Int32) (ok : ok_G_tryReceive I x1 x2 x3) : MC l yX4_tryReceive wX4_tryReceive { frames := 3, cells := 0, slots := 0, locals := 64 } D cs ad [.ref (ad 0), .int x1, .int x2, .int x3] I (some (.int (f_G_tryReceive I x1 x2 x3).1)) (f_G_tryReceive I x1 x2 x3).2 := by
  unfold ok_G_tryReceive at ok
  refine q_enter (cc := cX4_tryReceive) (maxL := 6) (ret := (some .boolean)) (by decide +kernel) rfl (Nat.le_of_ble_eq_true rfl) ?_
  intro p e s m below meth c ls hx hb hr hml hown hts hlocks hK hP hS hl
  have hown : s.vm.findClass RX4 = some m.cls := hown
  have hts : ∀ w ∈ gtbl, w.before _ s = true := fun w h => hts w (List.mem_cons_of_mem _ h)
  have hl : lv_has ls 6 [(0, .ref (ad 0)), (1, .int x1), (2, .int x2), (3, .int x3)] := hl
  refine lv_aload_n hx hb dX4_tryReceive_0 rfl (lv_at hl 0 rfl) ?_
  refine va_get (D := D) (ci := 4) (v := .ref (ad 1)) (C := RX4) (T := TX4) (N := 3) hx hb hts inX4 hown hK hP 0 (mq_G isO_0) rfl 0 (by decide) (hts _ k_101) (fun _ h9 => h9) rfl dX4_tryReceive_1 ?_
  refine lv_iload_n hx hb dX4_tryReceive_4 rfl (lv_at hl 1 rfl) ?_
  have g1 := ok.1
  have ok := ok.2
  refine q_ldM hx hb hK hP g1 dX4_tryReceive_5 ?_
  refine lv_astore (lv' := [(4, .ref (ad (Mb x1))), (0, .ref (ad 0)), (1, .int x1), (2, .int x2), (3, .int x3)]) hx hb dX4_tryReceive_6 hl (by decide) rfl (fun ls hl => ?_)
  refine lv_aload hx hb dX4_tryReceive_8 (lv_at hl 0 rfl) ?_
  refine va_get (D := D) (ci := 0) (v := .ref (ad ((Mb x1) + 5))) (C := RX0) (T := TX0) (N := 8) hx hb hts inX0 hown hK hP (Mb x1) (mq_M (isM_O (isM_in g1))) rfl 1 (by decide) (hts _ k_81) (fun _ h9 => h9) rfl dX4_tryReceive_10 ?_
  refine va_get (D := D) (ci := 3) (v := .int (I ((Mb x1) + 5) 2)) (C := RX3) (T := TX3) (N := 6) hx hb hts inX3 hown hK hP ((Mb x1) + 5) (mq_S (isM_C (isM_in g1)).1) rfl 4 (by decide) (hts _ k_53) (fun _ h9 => h9) rfl dX4_tryReceive_13 ?_
  refine lv_iconst (v := 1) hx hb dX4_tryReceive_16 (by decide) ?_
  refine lv_iadd hx hb dX4_tryReceive_17 ?_
  refine lv_istore (lv' := [(5, .int ((I ((Mb x1) + 5) 2) + 1)), (4, .ref (ad (Mb x1))), (0, .ref (ad 0)), (1, .int x1), (2, .int x2), (3, .int x3)]) hx hb dX4_tryReceive_18 hl (by decide) rfl (fun ls hl => ?_)
  refine lv_aload hx hb dX4_tryReceive_20 (lv_at hl 1 rfl) ?_
  refine va_get (D := D) (ci := 0) (v := .ref (ad ((Mb x1) + 11))) (C := RX0) (T := TX0) (N := 8) hx hb hts inX0 hown hK hP (Mb x1) (mq_M (isM_O (isM_in g1))) rfl 3 (by decide) (hts _ k_85) (fun _ h9 => h9) rfl dX4_tryReceive_22 ?_
  refine lv_iload hx hb dX4_tryReceive_25 (lv_at hl 0 rfl) ?_
  refine q_callp (va_runV (As := [.int ((I ((Mb x1) + 5) 2) + 1)]) (rest := []) ⟨hx, hb, hml, hown, hts⟩ (c_R_has l D cs ad hi (isM_L (isM_in g1)) I ((I ((Mb x1) + 5) 2) + 1)) (cwV 1 hts (gV k_192 k_193 k_194 k_5 k_195) rfl rfl rfl (by decide +kernel) ⟨Nat.le_of_ble_eq_true rfl, Nat.le_of_ble_eq_true rfl⟩) (q_preV hK hP (va_recv hK hP (ci := 1) (q0 := ((Mb x1) + 11)) rfl (mq_R (isM_L (isM_in g1)).1))) rfl rfl hl.1 rfl (lv_room (Nat.le_of_ble_eq_true rfl)) dX4_tryReceive_27 ⟨Nat.zero_le _, Nat.zero_le _⟩) hS (fun _ h => h) (fun H locs hP hS => ?_)
  refine lv_if_ne (tgt := 35) hx hb dX4_tryReceive_30 (by decide) (fun c2 => ?_) (fun c2 => ?_)
  · have ok := ok.2 c2
    refine lv_aload hx hb dX4_tryReceive_35 (lv_at hl 1 rfl) ?_
    refine va_get (D := D) (ci := 0) (v := .ref (ad ((Mb x1) + 5))) (C := RX0) (T := TX0) (N := 8) hx hb hts inX0 hown hK hP (Mb x1) (mq_M (isM_O (isM_in g1))) rfl 1 (by decide) (hts _ k_81) (fun _ h9 => h9) rfl dX4_tryReceive_37 ?_
    refine va_get (D := D) (ci := 3) (v := .ref (ad (((Mb x1) + 5) + 1))) (C := RX3) (T := TX3) (N := 6) hx hb hts inX3 hown hK hP ((Mb x1) + 5) (mq_S (isM_C (isM_in g1)).1) rfl 0 (by decide) (hts _ k_45) (fun _ h9 => h9) rfl dX4_tryReceive_40 ?_
    refine lv_iload_n hx hb dX4_tryReceive_43 rfl (lv_at hl 5 rfl) ?_
    refine lv_aload hx hb dX4_tryReceive_44 (lv_at hl 1 rfl) ?_
    refine va_get (D := D) (ci := 0) (v := .ref (ad ((Mb x1) + 11))) (C := RX0) (T := TX0) (N := 8) hx hb hts inX0 hown hK hP (Mb x1) (mq_M (isM_O (isM_in g1))) rfl 3 (by decide) (hts _ k_85) (fun _ h9 => h9) rfl dX4_tryReceive_46 ?_
    refine lv_iload hx hb dX4_tryReceive_49 (lv_at hl 0 rfl) ?_
    have g3 := ok.1
    have ok := ok.2
    refine q_callp (va_runV (As := [.int ((I ((Mb x1) + 5) 2) + 1)]) (rest := [.int x3, .ref (ad (((Mb x1) + 5) + 1))]) ⟨hx, hb, hml, hown, hts⟩ (c_R_originAt l D cs ad hi (isM_L (isM_in g1)) I ((I ((Mb x1) + 5) 2) + 1) g3) (cwV 1 hts (gV k_196 k_197 k_198 k_5 k_199) rfl rfl rfl (by decide +kernel) ⟨Nat.le_of_ble_eq_true rfl, Nat.le_of_ble_eq_true rfl⟩) (q_preV hK hP (va_recv hK hP (ci := 1) (q0 := ((Mb x1) + 11)) rfl (mq_R (isM_L (isM_in g1)).1))) rfl rfl hl.1 rfl (lv_room (Nat.le_of_ble_eq_true rfl)) dX4_tryReceive_51 ⟨Nat.zero_le _, Nat.zero_le _⟩) hS (fun _ h => h) (fun H locs hP hS => ?_)
    have g4 := ok.1
    have ok := ok.2
    refine va_iast hx hb hK hP (mD hi) hS (((Mb x1) + 5) + 1) 0 (mq_A (isM_C (isM_in g1)).2.1) rfl g4 dX4_tryReceive_54 (fun H locs hP _ hS => ?_)
    have hP := ms_A (isM_C (isM_in g1)).2.1 hP
    have hP : va_P D vwCl (mw 97 ad (gs cs ad (m_G_tryReceive_1 I x1 x2 x3))) H := hP
    refine lv_aload hx hb dX4_tryReceive_55 (lv_at hl 1 rfl) ?_
    refine va_get (D := D) (ci := 0) (v := .ref (ad ((Mb x1) + 5))) (C := RX0) (T := TX0) (N := 8) hx hb hts inX0 hown hK hP (Mb x1) (mq_M (isM_O (isM_in g1))) rfl 1 (by decide) (hts _ k_81) (fun _ h9 => h9) rfl dX4_tryReceive_57 ?_
    refine va_get (D := D) (ci := 3) (v := .ref (ad (((Mb x1) + 5) + 1))) (C := RX3) (T := TX3) (N := 6) hx hb hts inX3 hown hK hP ((Mb x1) + 5) (mq_S (isM_C (isM_in g1)).1) rfl 0 (by decide) (hts _ k_45) (fun _ h9 => h9) rfl dX4_tryReceive_60 ?_
    refine lv_iload_n hx hb dX4_tryReceive_63 rfl (lv_at hl 4 rfl) ?_
    refine lv_aload hx hb dX4_tryReceive_64 (lv_at hl 1 rfl) ?_
    refine va_get (D := D) (ci := 0) (v := .ref (ad ((Mb x1) + 11))) (C := RX0) (T := TX0) (N := 8) hx hb hts inX0 hown hK hP (Mb x1) (mq_M (isM_O (isM_in g1))) rfl 3 (by decide) (hts _ k_85) (fun _ h9 => h9) rfl dX4_tryReceive_66 ?_
    refine lv_iload hx hb dX4_tryReceive_69 (lv_at hl 0 rfl) ?_
    have g5 := ok.1
    have ok := ok.2
    refine q_callp (va_runV (As := [.int ((I ((Mb x1) + 5) 2) + 1)]) (rest := [.int x2, .ref (ad (((Mb x1) + 5) + 1))]) ⟨hx, hb, hml, hown, hts⟩ (c_R_valueAt l D cs ad hi (isM_L (isM_in g1)) (m_G_tryReceive_1 I x1 x2 x3) ((I ((Mb x1) + 5) 2) + 1) g5) (cwV 1 hts (gV k_161 k_162 k_163 k_5 k_164) rfl rfl rfl (by decide +kernel) ⟨Nat.le_of_ble_eq_true rfl, Nat.le_of_ble_eq_true rfl⟩) (q_preV hK hP (va_recv hK hP (ci := 1) (q0 := ((Mb x1) + 11)) rfl (mq_R (isM_L (isM_in g1)).1))) rfl rfl hl.1 rfl (lv_room (Nat.le_of_ble_eq_true rfl)) dX4_tryReceive_71 ⟨Nat.zero_le _, Nat.zero_le _⟩) hS (fun _ h => h) (fun H locs hP hS => ?_)
    have g6 := ok
    refine va_iast hx hb hK hP (mD hi) hS (((Mb x1) + 5) + 1) 0 (mq_A (isM_C (isM_in g1)).2.1) rfl g6 dX4_tryReceive_74 (fun H locs hP _ hS => ?_)
    have hP := ms_A (isM_C (isM_in g1)).2.1 hP
    have hP : va_P D vwCl (mw 97 ad (gs cs ad (m_G_tryReceive_2 I x1 x2 x3))) H := hP
    refine lv_aload hx hb dX4_tryReceive_75 (lv_at hl 1 rfl) ?_
    refine va_get (D := D) (ci := 0) (v := .ref (ad ((Mb x1) + 5))) (C := RX0) (T := TX0) (N := 8) hx hb hts inX0 hown hK hP (Mb x1) (mq_M (isM_O (isM_in g1))) rfl 1 (by decide) (hts _ k_81) (fun _ h9 => h9) rfl dX4_tryReceive_77 ?_
    refine lv_iload hx hb dX4_tryReceive_80 (lv_at hl 0 rfl) ?_
    refine va_put (D := D) (ci := 3) (v := .int ((I ((Mb x1) + 5) 2) + 1)) (ty := .int) (C := RX3) (T := TX3) (N := 6) hx hb hts inX3 tyX3 tyX3_ok nmX3 hown hK hP (mD hi) hS ((Mb x1) + 5) (mq_S (isM_C (isM_in g1)).1) rfl 4 (by decide) (hts _ k_53) (fun _ h9 => h9) rfl (by decide +kernel) rfl rfl (Nat.le_of_ble_eq_true rfl) dX4_tryReceive_82 (fun H locs hP _ hS => ?_)
    have hP := ms_S2 (isM_C (isM_in g1)).1 hP
    have hP : va_P D vwCl (mw 97 ad (gs cs ad (m_G_tryReceive_3 I x1 x2 x3))) H := hP
    refine lv_iconst (v := 1) hx hb dX4_tryReceive_85 (by decide) ?_
    exact q_zret hx hb hr hlocks dX4_tryReceive_86 hP hS rfl (by rw [f_G_tryReceive, if_neg c2])
  · have ok := ok.1 c2
    refine lv_iconst (v := 0) hx hb dX4_tryReceive_33 (by decide) ?_
    exact q_zret hx hb hr hlocks dX4_tryReceive_34 hP hS rfl (by rw [f_G_tryReceive, if_pos c2])
def m_G_tryPut_1 (I : Mm) (x1 x2 : Int32) : Mm := u2 ((f_R_append I 72 60 x2 x1).2) (Mb x1) 2 ((((f_R_append I 72 60 x2 x1).2) (Mb x1) 2) + 1)
def m_G_tryPut_2 (I : Mm) (x1 x2 : Int32) : Mm := u2 (m_G_tryPut_1 I x1 x2) ((Mb x1) + 5) 3 (((m_G_tryPut_1 I x1 x2) ((Mb x1) + 5) 3) + 1)
def m_G_tryPut_3 (I : Mm) (x1 x2 : Int32) : Mm := u2 I (Mb x1) 3 ((I (Mb x1) 3) + 1)
def m_G_tryPut_4 (I : Mm) (x1 x2 : Int32) : Mm := u2 (m_G_tryPut_3 I x1 x2) ((Mb x1) + 5) 3 (((m_G_tryPut_3 I x1 x2) ((Mb x1) + 5) 3) + 1)
def f_G_tryPut (I : Mm) (x1 x2 : Int32) : Int32 × Mm := (if (I (Mb x1) 2) ≤ (I ((Mb x1) + 5) 3) then (if (f_R_isFull I 72 60) = 0 then (1, (m_G_tryPut_2 I x1 x2)) else (0, I)) else (1, (m_G_tryPut_4 I x1 x2)))
def ok_G_tryPut (I : Mm) (x1 x2 : Int32) : Prop := vp_in x1 3 ∧ (((I (Mb x1) 2) ≤ (I ((Mb x1) + 5) 3) → ((f_R_isFull I 72 60) = 0 → ok_R_append I 72 60 x2 x1) ∧ (¬ (f_R_isFull I 72 60) = 0 → True)) ∧ (¬ (I (Mb x1) 2) ≤ (I ((Mb x1) + 5) 3) → True))
theorem z_G_tryPut (I : Mm) (x1 x2 : Int32) : narrow .boolean (.int (f_G_tryPut I x1 x2).1) = .int (f_G_tryPut I x1 x2).1 := by
  unfold f_G_tryPut
  (repeat' split) <;> first | (with_reducible exact nb0 _) | (with_reducible exact nb1 _) | (with_reducible exact zz (z_R_isFull _ _ _))
set_option maxHeartbeats 4000000 in
set_option maxRecDepth 100000 in
theorem c_G_tryPut (l : Launch) (D : va_G) (cs : Nat → ClassId) (ad : Nat → Nat) (hi : mi ad) (I : Mm) (x1 x2 : Int32) (ok : ok_G_tryPut I x1 x2) : MC l yX4_tryPut wX4_tryPut { frames := 3, cells := 0, slots := 0, locals := 65 } D cs ad [.ref (ad 0), .int x1, .int x2] I (some (.int (f_G_tryPut I x1 x2).1)) (f_G_tryPut I x1 x2).2 := by
  unfold ok_G_tryPut at ok
  refine q_enter (cc := cX4_tryPut) (maxL := 4) (ret := (some .boolean)) (by decide +kernel) rfl (Nat.le_of_ble_eq_true rfl) ?_
  intro p e s m below meth c ls hx hb hr hml hown hts hlocks hK hP hS hl
  have hown : s.vm.findClass RX4 = some m.cls := hown
  have hts : ∀ w ∈ gtbl, w.before _ s = true := fun w h => hts w (List.mem_cons_of_mem _ h)
  have hl : lv_has ls 4 [(0, .ref (ad 0)), (1, .int x1), (2, .int x2)] := hl
  refine lv_aload_n hx hb dX4_tryPut_0 rfl (lv_at hl 0 rfl) ?_
  refine va_get (D := D) (ci := 4) (v := .ref (ad 1)) (C := RX4) (T := TX4) (N := 3) hx hb hts inX4 hown hK hP 0 (mq_G isO_0) rfl 0 (by decide) (hts _ k_101) (fun _ h9 => h9) rfl dX4_tryPut_1 ?_
  refine lv_iload_n hx hb dX4_tryPut_4 rfl (lv_at hl 1 rfl) ?_
  have g1 := ok.1
  have ok := ok.2
  refine q_ldM hx hb hK hP g1 dX4_tryPut_5 ?_
  refine lv_astore_n (lv' := [(3, .ref (ad (Mb x1))), (0, .ref (ad 0)), (1, .int x1), (2, .int x2)]) hx hb dX4_tryPut_6 rfl hl (by decide) rfl (fun ls hl => ?_)
  refine lv_aload_n hx hb dX4_tryPut_7 rfl (lv_at hl 0 rfl) ?_
  refine va_get (D := D) (ci := 0) (v := .ref (ad ((Mb x1) + 5))) (C := RX0) (T := TX0) (N := 8) hx hb hts inX0 hown hK hP (Mb x1) (mq_M (isM_O (isM_in g1))) rfl 1 (by decide) (hts _ k_81) (fun _ h9 => h9) rfl dX4_tryPut_8 ?_
  refine va_get (D := D) (ci := 3) (v := .int (I ((Mb x1) + 5) 3)) (C := RX3) (T := TX3) (N := 6) hx hb hts inX3 hown hK hP ((Mb x1) + 5) (mq_S (isM_C (isM_in g1)).1) rfl 5 (by decide) (hts _ k_55) (fun _ h9 => h9) rfl dX4_tryPut_11 ?_
  refine lv_aload_n hx hb dX4_tryPut_14 rfl (lv_at hl 0 rfl) ?_
  refine va_get (D := D) (ci := 0) (v := .int (I (Mb x1) 2)) (C := RX0) (T := TX0) (N := 8) hx hb hts inX0 hown hK hP (Mb x1) (mq_M (isM_O (isM_in g1))) rfl 6 (by decide) (hts _ k_89) (fun _ h9 => h9) rfl dX4_tryPut_15 ?_
  refine lv_icmp_ge (tgt := 34) hx hb dX4_tryPut_18 (by decide) (fun c2 => ?_) (fun c2 => ?_)
  · have ok := ok.1 c2
    refine lv_aload_n hx hb dX4_tryPut_34 rfl (lv_at hl 1 rfl) ?_
    refine va_get (D := D) (ci := 4) (v := .ref (ad 72)) (C := RX4) (T := TX4) (N := 3) hx hb hts inX4 hown hK hP 0 (mq_G isO_0) rfl 2 (by decide) (hts _ k_103) (fun _ h9 => h9) rfl dX4_tryPut_35 ?_
    refine q_callp (va_runV (As := []) (rest := []) ⟨hx, hb, hml, hown, hts⟩ (c_R_isFull l D cs ad hi isR_72 I) (cwV 0 hts (gV k_135 k_136 k_137 k_5 k_138) rfl rfl rfl (by decide +kernel) ⟨Nat.le_of_ble_eq_true rfl, Nat.le_of_ble_eq_true rfl⟩) (q_preV hK hP (va_recv hK hP (ci := 1) (q0 := 72) rfl (mq_R isR_72.1))) rfl rfl hl.1 rfl (lv_room (Nat.le_of_ble_eq_true rfl)) dX4_tryPut_38 ⟨Nat.zero_le _, Nat.zero_le _⟩) hS (fun _ h => h) (fun H locs hP hS => ?_)
    refine lv_if_eq (tgt := 46) hx hb dX4_tryPut_41 (by decide) (fun c3 => ?_) (fun c3 => ?_)
    · have ok := ok.1 c3
      refine lv_aload_n hx hb dX4_tryPut_46 rfl (lv_at hl 1 rfl) ?_
      refine va_get (D := D) (ci := 4) (v := .ref (ad 72)) (C := RX4) (T := TX4) (N := 3) hx hb hts inX4 hown hK hP 0 (mq_G isO_0) rfl 2 (by decide) (hts _ k_103) (fun _ h9 => h9) rfl dX4_tryPut_47 ?_
      refine lv_iload_n hx hb dX4_tryPut_50 rfl (lv_at hl 3 rfl) ?_
      refine lv_iload_n hx hb dX4_tryPut_51 rfl (lv_at hl 2 rfl) ?_
      have g4 := ok
      refine q_calli (va_runV (As := [.int x2, .int x1]) (rest := []) ⟨hx, hb, hml, hown, hts⟩ (c_R_append l D cs ad hi isR_72 I x2 x1 g4) (cwV 2 hts (gV k_143 k_144 k_145 k_5 k_146) rfl rfl rfl (by decide +kernel) ⟨Nat.le_of_ble_eq_true rfl, Nat.le_of_ble_eq_true rfl⟩) (q_preV hK hP (va_recv hK hP (ci := 1) (q0 := 72) rfl (mq_R isR_72.1))) rfl rfl hl.1 rfl (lv_room (Nat.le_of_ble_eq_true rfl)) dX4_tryPut_52 ⟨Nat.zero_le _, Nat.zero_le _⟩) hS (fun _ h => h) (fun H locs hP hS => ?_)
      refine lv_pop hx hb dX4_tryPut_55 rfl ?_
      refine lv_aload_n hx hb dX4_tryPut_56 rfl (lv_at hl 0 rfl) ?_
      refine lv_dup hx hb dX4_tryPut_57 rfl ?_
      refine va_get (D := D) (ci := 0) (v := .int (((f_R_append I 72 60 x2 x1).2) (Mb x1) 2)) (C := RX0) (T := TX0) (N := 8) hx hb hts inX0 hown hK hP (Mb x1) (mq_M (isM_O (isM_in g1))) rfl 6 (by decide) (hts _ k_89) (fun _ h9 => h9) rfl dX4_tryPut_58 ?_
      refine lv_iconst (v := 1) hx hb dX4_tryPut_61 (by decide) ?_
      refine lv_iadd hx hb dX4_tryPut_62 ?_
      refine va_put (D := D) (ci := 0) (v := .int ((((f_R_append I 72 60 x2 x1).2) (Mb x1) 2) + 1)) (ty := .int) (C := RX0) (T := TX0) (N := 8) hx hb hts inX0 tyX0 tyX0_ok nmX0 hown hK hP (mD hi) hS (Mb x1) (mq_M (isM_O (isM_in g1))) rfl 6 (by decide) (hts _ k_89) (fun _ h9 => h9) rfl (by decide +kernel) rfl rfl (Nat.le_of_ble_eq_true rfl) dX4_tryPut_63 (fun H locs hP _ hS => ?_)
      have hP := ms_M2 (isM_O (isM_in g1)) hP
      have hP : va_P D vwCl (mw 97 ad (gs cs ad (m_G_tryPut_1 I x1 x2))) H := hP
      refine lv_aload_n hx hb dX4_tryPut_66 rfl (lv_at hl 0 rfl) ?_
      refine va_get (D := D) (ci := 0) (v := .ref (ad ((Mb x1) + 5))) (C := RX0) (T := TX0) (N := 8) hx hb hts inX0 hown hK hP (Mb x1) (mq_M (isM_O (isM_in g1))) rfl 1 (by decide) (hts _ k_81) (fun _ h9 => h9) rfl dX4_tryPut_67 ?_
      refine lv_dup hx hb dX4_tryPut_70 rfl ?_
      refine va_get (D := D) (ci := 3) (v := .int ((m_G_tryPut_1 I x1 x2) ((Mb x1) + 5) 3)) (C := RX3) (T := TX3) (N := 6) hx hb hts inX3 hown hK hP ((Mb x1) + 5) (mq_S (isM_C (isM_in g1)).1) rfl 5 (by decide) (hts _ k_55) (fun _ h9 => h9) rfl dX4_tryPut_71 ?_
      refine lv_iconst (v := 1) hx hb dX4_tryPut_74 (by decide) ?_
      refine lv_iadd hx hb dX4_tryPut_75 ?_
      refine va_put (D := D) (ci := 3) (v := .int (((m_G_tryPut_1 I x1 x2) ((Mb x1) + 5) 3) + 1)) (ty := .int) (C := RX3) (T := TX3) (N := 6) hx hb hts inX3 tyX3 tyX3_ok nmX3 hown hK hP (mD hi) hS ((Mb x1) + 5) (mq_S (isM_C (isM_in g1)).1) rfl 5 (by decide) (hts _ k_55) (fun _ h9 => h9) rfl (by decide +kernel) rfl rfl (Nat.le_of_ble_eq_true rfl) dX4_tryPut_76 (fun H locs hP _ hS => ?_)
      have hP := ms_S3 (isM_C (isM_in g1)).1 hP
      have hP : va_P D vwCl (mw 97 ad (gs cs ad (m_G_tryPut_2 I x1 x2))) H := hP
      refine lv_iconst (v := 1) hx hb dX4_tryPut_79 (by decide) ?_
      exact q_zret hx hb hr hlocks dX4_tryPut_80 hP hS rfl (by rw [f_G_tryPut, if_pos c2, if_pos c3])
    · have ok := ok.2 c3
      refine lv_iconst (v := 0) hx hb dX4_tryPut_44 (by decide) ?_
      exact q_zret hx hb hr hlocks dX4_tryPut_45 hP hS rfl (by rw [f_G_tryPut, if_pos c2, if_neg c3])
  · have ok := ok.2 c2
    refine lv_aload_n hx hb dX4_tryPut_21 rfl (lv_at hl 0 rfl) ?_
    refine lv_dup hx hb dX4_tryPut_22 rfl ?_
    refine va_get (D := D) (ci := 0) (v := .int (I (Mb x1) 3)) (C := RX0) (T := TX0) (N := 8) hx hb hts inX0 hown hK hP (Mb x1) (mq_M (isM_O (isM_in g1))) rfl 7 (by decide) (hts _ k_90) (fun _ h9 => h9) rfl dX4_tryPut_23 ?_
    refine lv_iconst (v := 1) hx hb dX4_tryPut_26 (by decide) ?_
    refine lv_iadd hx hb dX4_tryPut_27 ?_
    refine va_put (D := D) (ci := 0) (v := .int ((I (Mb x1) 3) + 1)) (ty := .int) (C := RX0) (T := TX0) (N := 8) hx hb hts inX0 tyX0 tyX0_ok nmX0 hown hK hP (mD hi) hS (Mb x1) (mq_M (isM_O (isM_in g1))) rfl 7 (by decide) (hts _ k_90) (fun _ h9 => h9) rfl (by decide +kernel) rfl rfl (Nat.le_of_ble_eq_true rfl) dX4_tryPut_28 (fun H locs hP _ hS => ?_)
    have hP := ms_M3 (isM_O (isM_in g1)) hP
    have hP : va_P D vwCl (mw 97 ad (gs cs ad (m_G_tryPut_3 I x1 x2))) H := hP
    refine lv_goto (tgt := 66) hx hb dX4_tryPut_31 (by decide) ?_
    refine lv_aload_n hx hb dX4_tryPut_66 rfl (lv_at hl 0 rfl) ?_
    refine va_get (D := D) (ci := 0) (v := .ref (ad ((Mb x1) + 5))) (C := RX0) (T := TX0) (N := 8) hx hb hts inX0 hown hK hP (Mb x1) (mq_M (isM_O (isM_in g1))) rfl 1 (by decide) (hts _ k_81) (fun _ h9 => h9) rfl dX4_tryPut_67 ?_
    refine lv_dup hx hb dX4_tryPut_70 rfl ?_
    refine va_get (D := D) (ci := 3) (v := .int ((m_G_tryPut_3 I x1 x2) ((Mb x1) + 5) 3)) (C := RX3) (T := TX3) (N := 6) hx hb hts inX3 hown hK hP ((Mb x1) + 5) (mq_S (isM_C (isM_in g1)).1) rfl 5 (by decide) (hts _ k_55) (fun _ h9 => h9) rfl dX4_tryPut_71 ?_
    refine lv_iconst (v := 1) hx hb dX4_tryPut_74 (by decide) ?_
    refine lv_iadd hx hb dX4_tryPut_75 ?_
    refine va_put (D := D) (ci := 3) (v := .int (((m_G_tryPut_3 I x1 x2) ((Mb x1) + 5) 3) + 1)) (ty := .int) (C := RX3) (T := TX3) (N := 6) hx hb hts inX3 tyX3 tyX3_ok nmX3 hown hK hP (mD hi) hS ((Mb x1) + 5) (mq_S (isM_C (isM_in g1)).1) rfl 5 (by decide) (hts _ k_55) (fun _ h9 => h9) rfl (by decide +kernel) rfl rfl (Nat.le_of_ble_eq_true rfl) dX4_tryPut_76 (fun H locs hP _ hS => ?_)
    have hP := ms_S3 (isM_C (isM_in g1)).1 hP
    have hP : va_P D vwCl (mw 97 ad (gs cs ad (m_G_tryPut_4 I x1 x2))) H := hP
    refine lv_iconst (v := 1) hx hb dX4_tryPut_79 (by decide) ?_
    exact q_zret hx hb hr hlocks dX4_tryPut_80 hP hS rfl (by rw [f_G_tryPut, if_neg c2])
def m_G_perform_1 (I : Mm) (x1 x2 x3 x4 : Int32) : Mm := u2 I (((Mb x1) + 5) + 1) x3.toNatClampNeg x4
def m_G_perform_2 (I : Mm) (x1 x2 x3 x4 : Int32) : Mm := u2 I (((Mb x1) + 5) + 1) x3.toNatClampNeg ((I (((Mb x1) + 5) + 1) x3.toNatClampNeg) + (I (((Mb x1) + 5) + 1) x4.toNatClampNeg))
def m_G_perform_3 (I : Mm) (x1 x2 x3 x4 : Int32) : Mm := u2 I (((Mb x1) + 5) + 1) x3.toNatClampNeg ((I (((Mb x1) + 5) + 1) x3.toNatClampNeg) * (I (((Mb x1) + 5) + 1) x4.toNatClampNeg))
def f_G_perform (I : Mm) (x1 x2 x3 x4 : Int32) : Int32 × Mm := (if x2 = 0 then (1, (m_G_perform_1 I x1 x2 x3 x4)) else (if x2 = 1 then (1, (m_G_perform_2 I x1 x2 x3 x4)) else (if x2 = 2 then (1, (m_G_perform_3 I x1 x2 x3 x4)) else (if x2 = 3 then (1, I) else (if x2 = 4 then (1, I) else (if x2 = 5 then ((f_G_trySend I x1 x3 (I (((Mb x1) + 5) + 1) x4.toNatClampNeg)).1, (f_G_trySend I x1 x3 (I (((Mb x1) + 5) + 1) x4.toNatClampNeg)).2) else (if x2 = 6 then ((f_G_tryReceive I x1 x3 x4).1, (f_G_tryReceive I x1 x3 x4).2) else (if x2 = 7 then ((f_G_tryPut I x1 (I (((Mb x1) + 5) + 1) x3.toNatClampNeg)).1, (f_G_tryPut I x1 (I (((Mb x1) + 5) + 1) x3.toNatClampNeg)).2) else (1, I)))))))))
def ok_G_perform (I : Mm) (x1 x2 x3 x4 : Int32) : Prop := vp_in x1 3 ∧ ((x2 = 0 → vp_in x3 4) ∧ (¬ x2 = 0 → (x2 = 1 → vp_in x3 4 ∧ (vp_in x4 4)) ∧ (¬ x2 = 1 → (x2 = 2 → vp_in x3 4 ∧ (vp_in x4 4)) ∧ (¬ x2 = 2 → (x2 = 3 → True) ∧ (¬ x2 = 3 → (x2 = 4 → True) ∧ (¬ x2 = 4 → (x2 = 5 → vp_in x4 4 ∧ (ok_G_trySend I x1 x3 (I (((Mb x1) + 5) + 1) x4.toNatClampNeg))) ∧ (¬ x2 = 5 → (x2 = 6 → ok_G_tryReceive I x1 x3 x4) ∧ (¬ x2 = 6 → (x2 = 7 → vp_in x3 4 ∧ (ok_G_tryPut I x1 (I (((Mb x1) + 5) + 1) x3.toNatClampNeg))) ∧ (¬ x2 = 7 → True)))))))))
theorem z_G_perform (I : Mm) (x1 x2 x3 x4 : Int32) : narrow .boolean (.int (f_G_perform I x1 x2 x3 x4).1) = .int (f_G_perform I x1 x2 x3 x4).1 := by
  unfold f_G_perform
  (repeat' split) <;> first | (with_reducible exact nb0 _) | (with_reducible exact nb1 _) | (with_reducible exact zz (z_G_tryPut _ _ _)) | (with_reducible exact zz (z_G_tryReceive _ _ _ _)) | (with_reducible exact zz (z_G_trySend _ _ _ _))
set_option maxHeartbeats 4000000 in
set_option maxRecDepth 100000 in
theorem c_G_perform (l : Launch) (D : va_G) (cs : Nat → ClassId) (ad : Nat → Nat) (hi : mi ad) (I : Mm) (x1 x2 x3 x4 : Int32) (ok : ok_G_perform I x1 x2 x3 x4) : MC l yX4_perform wX4_perform { frames := 4, cells := 0, slots := 0, locals := 90 } D cs ad [.ref (ad 0), .int x1, .int x2, .int x3, .int x4] I (some (.int (f_G_perform I x1 x2 x3 x4).1)) (f_G_perform I x1 x2 x3 x4).2 := by
  unfold ok_G_perform at ok
  refine q_enter (cc := cX4_perform) (maxL := 6) (ret := (some .boolean)) (by decide +kernel) rfl (Nat.le_of_ble_eq_true rfl) ?_
  intro p e s m below meth c ls hx hb hr hml hown hts hlocks hK hP hS hl
  have hown : s.vm.findClass RX4 = some m.cls := hown
  have hts : ∀ w ∈ gtbl, w.before _ s = true := fun w h => hts w (List.mem_cons_of_mem _ h)
  have hl : lv_has ls 6 [(0, .ref (ad 0)), (1, .int x1), (2, .int x2), (3, .int x3), (4, .int x4)] := hl
  refine lv_aload_n hx hb dX4_perform_0 rfl (lv_at hl 0 rfl) ?_
  refine va_get (D := D) (ci := 4) (v := .ref (ad 1)) (C := RX4) (T := TX4) (N := 3) hx hb hts inX4 hown hK hP 0 (mq_G isO_0) rfl 0 (by decide) (hts _ k_101) (fun _ h9 => h9) rfl dX4_perform_1 ?_
  refine lv_iload_n hx hb dX4_perform_4 rfl (lv_at hl 1 rfl) ?_
  have g1 := ok.1
  have ok := ok.2
  refine q_ldM hx hb hK hP g1 dX4_perform_5 ?_
  refine va_get (D := D) (ci := 0) (v := .ref (ad ((Mb x1) + 5))) (C := RX0) (T := TX0) (N := 8) hx hb hts inX0 hown hK hP (Mb x1) (mq_M (isM_O (isM_in g1))) rfl 1 (by decide) (hts _ k_81) (fun _ h9 => h9) rfl dX4_perform_6 ?_
  refine va_get (D := D) (ci := 3) (v := .ref (ad (((Mb x1) + 5) + 1))) (C := RX3) (T := TX3) (N := 6) hx hb hts inX3 hown hK hP ((Mb x1) + 5) (mq_S (isM_C (isM_in g1)).1) rfl 0 (by decide) (hts _ k_45) (fun _ h9 => h9) rfl dX4_perform_9 ?_
  refine lv_astore (lv' := [(5, .ref (ad (((Mb x1) + 5) + 1))), (0, .ref (ad 0)), (1, .int x1), (2, .int x2), (3, .int x3), (4, .int x4)]) hx hb dX4_perform_12 hl (by decide) rfl (fun ls hl => ?_)
  refine lv_iload_n hx hb dX4_perform_14 rfl (lv_at hl 3 rfl) ?_
  by_cases c2 : x2 = 0
  · have ok := ok.1 c2
    refine lv_tableIn (tgt := 60) (off := 45) hx hb dX4_perform_15 (by rw [c2]; decide) (by rw [c2]; decide) (by rw [c2]; rfl) (by decide) ?_
    refine lv_aload hx hb dX4_perform_60 (lv_at hl 0 rfl) ?_
    refine lv_iload_n hx hb dX4_perform_62 rfl (lv_at hl 4 rfl) ?_
    refine lv_iload hx hb dX4_perform_63 (lv_at hl 5 rfl) ?_
    have g3 := ok
    refine va_iast hx hb hK hP (mD hi) hS (((Mb x1) + 5) + 1) 0 (mq_A (isM_C (isM_in g1)).2.1) rfl g3 dX4_perform_65 (fun H locs hP _ hS => ?_)
    have hP := ms_A (isM_C (isM_in g1)).2.1 hP
    have hP : va_P D vwCl (mw 97 ad (gs cs ad (m_G_perform_1 I x1 x2 x3 x4))) H := hP
    refine lv_iconst (v := 1) hx hb dX4_perform_66 (by decide) ?_
    exact q_zret hx hb hr hlocks dX4_perform_67 hP hS rfl (by rw [f_G_perform, if_pos c2])
  · have ok := ok.2 c2
    by_cases c4 : x2 = 1
    · have ok := ok.1 c4
      refine lv_tableIn (tgt := 68) (off := 53) hx hb dX4_perform_15 (by rw [c4]; decide) (by rw [c4]; decide) (by rw [c4]; rfl) (by decide) ?_
      refine lv_aload hx hb dX4_perform_68 (lv_at hl 0 rfl) ?_
      refine lv_iload_n hx hb dX4_perform_70 rfl (lv_at hl 4 rfl) ?_
      refine lv_dup2_11 hx hb dX4_perform_71 rfl rfl ?_
      have g5 := ok.1
      have ok := ok.2
      refine va_iald hx hb hK hP (((Mb x1) + 5) + 1) 0 (mq_A (isM_C (isM_in g1)).2.1) rfl g5 dX4_perform_72 ?_
      refine lv_aload hx hb dX4_perform_73 (lv_at hl 0 rfl) ?_
      refine lv_iload hx hb dX4_perform_75 (lv_at hl 5 rfl) ?_
      have g6 := ok
      refine va_iald hx hb hK hP (((Mb x1) + 5) + 1) 0 (mq_A (isM_C (isM_in g1)).2.1) rfl g6 dX4_perform_77 ?_
      refine lv_iadd hx hb dX4_perform_78 ?_
      refine va_iast hx hb hK hP (mD hi) hS (((Mb x1) + 5) + 1) 0 (mq_A (isM_C (isM_in g1)).2.1) rfl g5 dX4_perform_79 (fun H locs hP _ hS => ?_)
      have hP := ms_A (isM_C (isM_in g1)).2.1 hP
      have hP : va_P D vwCl (mw 97 ad (gs cs ad (m_G_perform_2 I x1 x2 x3 x4))) H := hP
      refine lv_iconst (v := 1) hx hb dX4_perform_80 (by decide) ?_
      exact q_zret hx hb hr hlocks dX4_perform_81 hP hS rfl (by rw [f_G_perform, if_neg c2, if_pos c4])
    · have ok := ok.2 c4
      by_cases c7 : x2 = 2
      · have ok := ok.1 c7
        refine lv_tableIn (tgt := 82) (off := 67) hx hb dX4_perform_15 (by rw [c7]; decide) (by rw [c7]; decide) (by rw [c7]; rfl) (by decide) ?_
        refine lv_aload hx hb dX4_perform_82 (lv_at hl 0 rfl) ?_
        refine lv_iload_n hx hb dX4_perform_84 rfl (lv_at hl 4 rfl) ?_
        refine lv_dup2_11 hx hb dX4_perform_85 rfl rfl ?_
        have g8 := ok.1
        have ok := ok.2
        refine va_iald hx hb hK hP (((Mb x1) + 5) + 1) 0 (mq_A (isM_C (isM_in g1)).2.1) rfl g8 dX4_perform_86 ?_
        refine lv_aload hx hb dX4_perform_87 (lv_at hl 0 rfl) ?_
        refine lv_iload hx hb dX4_perform_89 (lv_at hl 5 rfl) ?_
        have g9 := ok
        refine va_iald hx hb hK hP (((Mb x1) + 5) + 1) 0 (mq_A (isM_C (isM_in g1)).2.1) rfl g9 dX4_perform_91 ?_
        refine lv_imul hx hb dX4_perform_92 ?_
        refine va_iast hx hb hK hP (mD hi) hS (((Mb x1) + 5) + 1) 0 (mq_A (isM_C (isM_in g1)).2.1) rfl g8 dX4_perform_93 (fun H locs hP _ hS => ?_)
        have hP := ms_A (isM_C (isM_in g1)).2.1 hP
        have hP : va_P D vwCl (mw 97 ad (gs cs ad (m_G_perform_3 I x1 x2 x3 x4))) H := hP
        refine lv_iconst (v := 1) hx hb dX4_perform_94 (by decide) ?_
        exact q_zret hx hb hr hlocks dX4_perform_95 hP hS rfl (by rw [f_G_perform, if_neg c2, if_neg c4, if_pos c7])
      · have ok := ok.2 c7
        by_cases c10 : x2 = 3
        · have ok := ok.1 c10
          refine lv_tableIn (tgt := 127) (off := 112) hx hb dX4_perform_15 (by rw [c10]; decide) (by rw [c10]; decide) (by rw [c10]; rfl) (by decide) ?_
          refine lv_iconst (v := 1) hx hb dX4_perform_127 (by decide) ?_
          exact q_zret hx hb hr hlocks dX4_perform_128 hP hS rfl (by rw [f_G_perform, if_neg c2, if_neg c4, if_neg c7, if_pos c10])
        · have ok := ok.2 c10
          by_cases c11 : x2 = 4
          · have ok := ok.1 c11
            refine lv_tableIn (tgt := 127) (off := 112) hx hb dX4_perform_15 (by rw [c11]; decide) (by rw [c11]; decide) (by rw [c11]; rfl) (by decide) ?_
            refine lv_iconst (v := 1) hx hb dX4_perform_127 (by decide) ?_
            exact q_zret hx hb hr hlocks dX4_perform_128 hP hS rfl (by rw [f_G_perform, if_neg c2, if_neg c4, if_neg c7, if_neg c10, if_pos c11])
          · have ok := ok.2 c11
            by_cases c12 : x2 = 5
            · have ok := ok.1 c12
              refine lv_tableIn (tgt := 96) (off := 81) hx hb dX4_perform_15 (by rw [c12]; decide) (by rw [c12]; decide) (by rw [c12]; rfl) (by decide) ?_
              refine lv_aload_n hx hb dX4_perform_96 rfl (lv_at hl 1 rfl) ?_
              refine lv_iload_n hx hb dX4_perform_97 rfl (lv_at hl 2 rfl) ?_
              refine lv_iload_n hx hb dX4_perform_98 rfl (lv_at hl 4 rfl) ?_
              refine lv_aload hx hb dX4_perform_99 (lv_at hl 0 rfl) ?_
              refine lv_iload hx hb dX4_perform_101 (lv_at hl 5 rfl) ?_
              have g13 := ok.1
              have ok := ok.2
              refine va_iald hx hb hK hP (((Mb x1) + 5) + 1) 0 (mq_A (isM_C (isM_in g1)).2.1) rfl g13 dX4_perform_103 ?_
              have g14 := ok
              refine q_calli (va_runV (As := [.int x1, .int x3, .int (I (((Mb x1) + 5) + 1) x4.toNatClampNeg)]) (rest := []) ⟨hx, hb, hml, hown, hts⟩ (c_G_trySend l D cs ad hi I x1 x3 (I (((Mb x1) + 5) + 1) x4.toNatClampNeg) g14) (cwV 3 hts (gV k_186 k_187 k_434 k_1 k_188) rfl rfl rfl (by decide +kernel) ⟨Nat.le_of_ble_eq_true rfl, Nat.le_of_ble_eq_true rfl⟩) (q_preV hK hP (va_recv hK hP (ci := 4) (q0 := 0) rfl (mq_G isO_0))) rfl rfl hl.1 rfl (lv_room (Nat.le_of_ble_eq_true rfl)) dX4_perform_104 ⟨Nat.zero_le _, Nat.zero_le _⟩) hS (fun _ h => h) (fun H locs hP hS => ?_)
              exact q_zret hx hb hr hlocks dX4_perform_107 hP hS (z_G_trySend I x1 x3 (I (((Mb x1) + 5) + 1) x4.toNatClampNeg)) (by rw [f_G_perform, if_neg c2, if_neg c4, if_neg c7, if_neg c10, if_neg c11, if_pos c12])
            · have ok := ok.2 c12
              by_cases c15 : x2 = 6
              · have ok := ok.1 c15
                refine lv_tableIn (tgt := 108) (off := 93) hx hb dX4_perform_15 (by rw [c15]; decide) (by rw [c15]; decide) (by rw [c15]; rfl) (by decide) ?_
                refine lv_aload_n hx hb dX4_perform_108 rfl (lv_at hl 1 rfl) ?_
                refine lv_iload_n hx hb dX4_perform_109 rfl (lv_at hl 2 rfl) ?_
                refine lv_iload_n hx hb dX4_perform_110 rfl (lv_at hl 4 rfl) ?_
                refine lv_iload hx hb dX4_perform_111 (lv_at hl 5 rfl) ?_
                have g16 := ok
                refine q_calli (va_runV (As := [.int x1, .int x3, .int x4]) (rest := []) ⟨hx, hb, hml, hown, hts⟩ (c_G_tryReceive l D cs ad hi I x1 x3 x4 g16) (cwV 3 hts (gV k_189 k_190 k_435 k_1 k_191) rfl rfl rfl (by decide +kernel) ⟨Nat.le_of_ble_eq_true rfl, Nat.le_of_ble_eq_true rfl⟩) (q_preV hK hP (va_recv hK hP (ci := 4) (q0 := 0) rfl (mq_G isO_0))) rfl rfl hl.1 rfl (lv_room (Nat.le_of_ble_eq_true rfl)) dX4_perform_113 ⟨Nat.zero_le _, Nat.zero_le _⟩) hS (fun _ h => h) (fun H locs hP hS => ?_)
                exact q_zret hx hb hr hlocks dX4_perform_116 hP hS (z_G_tryReceive I x1 x3 x4) (by rw [f_G_perform, if_neg c2, if_neg c4, if_neg c7, if_neg c10, if_neg c11, if_neg c12, if_pos c15])
              · have ok := ok.2 c15
                by_cases c17 : x2 = 7
                · have ok := ok.1 c17
                  refine lv_tableIn (tgt := 117) (off := 102) hx hb dX4_perform_15 (by rw [c17]; decide) (by rw [c17]; decide) (by rw [c17]; rfl) (by decide) ?_
                  refine lv_aload_n hx hb dX4_perform_117 rfl (lv_at hl 1 rfl) ?_
                  refine lv_iload_n hx hb dX4_perform_118 rfl (lv_at hl 2 rfl) ?_
                  refine lv_aload hx hb dX4_perform_119 (lv_at hl 0 rfl) ?_
                  refine lv_iload_n hx hb dX4_perform_121 rfl (lv_at hl 4 rfl) ?_
                  have g18 := ok.1
                  have ok := ok.2
                  refine va_iald hx hb hK hP (((Mb x1) + 5) + 1) 0 (mq_A (isM_C (isM_in g1)).2.1) rfl g18 dX4_perform_122 ?_
                  have g19 := ok
                  refine q_calli (va_runV (As := [.int x1, .int (I (((Mb x1) + 5) + 1) x3.toNatClampNeg)]) (rest := []) ⟨hx, hb, hml, hown, hts⟩ (c_G_tryPut l D cs ad hi I x1 (I (((Mb x1) + 5) + 1) x3.toNatClampNeg) g19) (cwV 2 hts (gV k_200 k_201 k_436 k_1 k_202) rfl rfl rfl (by decide +kernel) ⟨Nat.le_of_ble_eq_true rfl, Nat.le_of_ble_eq_true rfl⟩) (q_preV hK hP (va_recv hK hP (ci := 4) (q0 := 0) rfl (mq_G isO_0))) rfl rfl hl.1 rfl (lv_room (Nat.le_of_ble_eq_true rfl)) dX4_perform_123 ⟨Nat.zero_le _, Nat.zero_le _⟩) hS (fun _ h => h) (fun H locs hP hS => ?_)
                  exact q_zret hx hb hr hlocks dX4_perform_126 hP hS (z_G_tryPut I x1 (I (((Mb x1) + 5) + 1) x3.toNatClampNeg)) (by rw [f_G_perform, if_neg c2, if_neg c4, if_neg c7, if_neg c10, if_neg c11, if_neg c12, if_neg c15, if_pos c17])
                · have ok := ok.2 c17
                  refine lv_tableOut (tgt := 127) hx hb dX4_perform_15 (tb_out0_7 c2 c4 c7 c10 c11 c12 c15 c17) (by decide) ?_
                  refine lv_iconst (v := 1) hx hb dX4_perform_127 (by decide) ?_
                  exact q_zret hx hb hr hlocks dX4_perform_128 hP hS rfl (by rw [f_G_perform, if_neg c2, if_neg c4, if_neg c7, if_neg c10, if_neg c11, if_neg c12, if_neg c15, if_neg c17])
def m_G_doNext_1 (I : Mm) (x1 : Int32) : Mm := u2 ((f_G_perform I x1 (I (((Mb x1) + 1) + 1) ((I ((Mb x1) + 5) 0).toNatClampNeg)) (I (((Mb x1) + 1) + 2) ((I ((Mb x1) + 5) 0).toNatClampNeg)) (I (((Mb x1) + 1) + 3) ((I ((Mb x1) + 5) 0).toNatClampNeg))).2) ((Mb x1) + 5) 0 (f_G_placeAfter I ((Mb x1) + 5) (I (((Mb x1) + 1) + 1) ((I ((Mb x1) + 5) 0).toNatClampNeg)) (I (((Mb x1) + 1) + 2) ((I ((Mb x1) + 5) 0).toNatClampNeg)) (I (((Mb x1) + 1) + 3) ((I ((Mb x1) + 5) 0).toNatClampNeg)))
def m_G_doNext_2 (I : Mm) (x1 : Int32) : Mm := u2 (m_G_doNext_1 I x1) ((Mb x1) + 5) 1 (((m_G_doNext_1 I x1) ((Mb x1) + 5) 1) + 1)
def m_G_doNext_3 (I : Mm) (x1 : Int32) : Mm := u2 (m_G_doNext_2 I x1) (Mb x1) 1 1
def f_G_doNext (I : Mm) (x1 : Int32) : Int32 × Mm := (if (f_P_has I ((Mb x1) + 1) (I ((Mb x1) + 5) 0)) = 0 then (2, I) else (if ((f_G_perform I x1 (I (((Mb x1) + 1) + 1) ((I ((Mb x1) + 5) 0).toNatClampNeg)) (I (((Mb x1) + 1) + 2) ((I ((Mb x1) + 5) 0).toNatClampNeg)) (I (((Mb x1) + 1) + 3) ((I ((Mb x1) + 5) 0).toNatClampNeg))).1) = 0 then (0, (f_G_perform I x1 (I (((Mb x1) + 1) + 1) ((I ((Mb x1) + 5) 0).toNatClampNeg)) (I (((Mb x1) + 1) + 2) ((I ((Mb x1) + 5) 0).toNatClampNeg)) (I (((Mb x1) + 1) + 3) ((I ((Mb x1) + 5) 0).toNatClampNeg))).2) else (1, (m_G_doNext_3 I x1))))
def ok_G_doNext (I : Mm) (x1 : Int32) : Prop := vp_in x1 3 ∧ (((f_P_has I ((Mb x1) + 1) (I ((Mb x1) + 5) 0)) = 0 → True) ∧ (¬ (f_P_has I ((Mb x1) + 1) (I ((Mb x1) + 5) 0)) = 0 → vp_in (I ((Mb x1) + 5) 0) 16 ∧ (ok_G_placeAfter ((Mb x1) + 5) (I (((Mb x1) + 1) + 1) ((I ((Mb x1) + 5) 0).toNatClampNeg)) (I (((Mb x1) + 1) + 2) ((I ((Mb x1) + 5) 0).toNatClampNeg)) (I (((Mb x1) + 1) + 3) ((I ((Mb x1) + 5) 0).toNatClampNeg)) ∧ (ok_G_perform I x1 (I (((Mb x1) + 1) + 1) ((I ((Mb x1) + 5) 0).toNatClampNeg)) (I (((Mb x1) + 1) + 2) ((I ((Mb x1) + 5) 0).toNatClampNeg)) (I (((Mb x1) + 1) + 3) ((I ((Mb x1) + 5) 0).toNatClampNeg))))))
set_option maxHeartbeats 4000000 in
set_option maxRecDepth 100000 in
theorem c_G_doNext (l : Launch) (D : va_G) (cs : Nat → ClassId) (ad : Nat → Nat) (hi : mi ad) (I : Mm) (x1 : Int32) (ok : ok_G_doNext I x1) : MC l yX4_doNext wX4_doNext { frames := 5, cells := 0, slots := 0, locals := 115 } D cs ad [.ref (ad 0), .int x1] I (some (.int (f_G_doNext I x1).1)) (f_G_doNext I x1).2 := by
  unfold ok_G_doNext at ok
  refine q_enter (cc := cX4_doNext) (maxL := 9) (ret := (some .int)) (by decide +kernel) rfl (Nat.le_of_ble_eq_true rfl) ?_
  intro p e s m below meth c ls hx hb hr hml hown hts hlocks hK hP hS hl
  have hown : s.vm.findClass RX4 = some m.cls := hown
  have hts : ∀ w ∈ gtbl, w.before _ s = true := fun w h => hts w (List.mem_cons_of_mem _ h)
  have hl : lv_has ls 9 [(0, .ref (ad 0)), (1, .int x1)] := hl
  refine lv_aload_n hx hb dX4_doNext_0 rfl (lv_at hl 0 rfl) ?_
  refine va_get (D := D) (ci := 4) (v := .ref (ad 1)) (C := RX4) (T := TX4) (N := 3) hx hb hts inX4 hown hK hP 0 (mq_G isO_0) rfl 0 (by decide) (hts _ k_101) (fun _ h9 => h9) rfl dX4_doNext_1 ?_
  refine lv_iload_n hx hb dX4_doNext_4 rfl (lv_at hl 1 rfl) ?_
  have g1 := ok.1
  have ok := ok.2
  refine q_ldM hx hb hK hP g1 dX4_doNext_5 ?_
  refine lv_astore_n (lv' := [(2, .ref (ad (Mb x1))), (0, .ref (ad 0)), (1, .int x1)]) hx hb dX4_doNext_6 rfl hl (by decide) rfl (fun ls hl => ?_)
  refine lv_aload_n hx hb dX4_doNext_7 rfl (lv_at hl 0 rfl) ?_
  refine va_get (D := D) (ci := 0) (v := .ref (ad ((Mb x1) + 5))) (C := RX0) (T := TX0) (N := 8) hx hb hts inX0 hown hK hP (Mb x1) (mq_M (isM_O (isM_in g1))) rfl 1 (by decide) (hts _ k_81) (fun _ h9 => h9) rfl dX4_doNext_8 ?_
  refine lv_astore_n (lv' := [(3, .ref (ad ((Mb x1) + 5))), (2, .ref (ad (Mb x1))), (0, .ref (ad 0)), (1, .int x1)]) hx hb dX4_doNext_11 rfl hl (by decide) rfl (fun ls hl => ?_)
  refine lv_aload_n hx hb dX4_doNext_12 rfl (lv_at hl 0 rfl) ?_
  refine va_get (D := D) (ci := 3) (v := .int (I ((Mb x1) + 5) 0)) (C := RX3) (T := TX3) (N := 6) hx hb hts inX3 hown hK hP ((Mb x1) + 5) (mq_S (isM_C (isM_in g1)).1) rfl 2 (by decide) (hts _ k_49) (fun _ h9 => h9) rfl dX4_doNext_13 ?_
  refine lv_istore (lv' := [(4, .int (I ((Mb x1) + 5) 0)), (3, .ref (ad ((Mb x1) + 5))), (2, .ref (ad (Mb x1))), (0, .ref (ad 0)), (1, .int x1)]) hx hb dX4_doNext_16 hl (by decide) rfl (fun ls hl => ?_)
  refine lv_aload_n hx hb dX4_doNext_18 rfl (lv_at hl 2 rfl) ?_
  refine va_get (D := D) (ci := 0) (v := .ref (ad ((Mb x1) + 1))) (C := RX0) (T := TX0) (N := 8) hx hb hts inX0 hown hK hP (Mb x1) (mq_M (isM_O (isM_in g1))) rfl 0 (by decide) (hts _ k_79) (fun _ h9 => h9) rfl dX4_doNext_19 ?_
  refine lv_iload hx hb dX4_doNext_22 (lv_at hl 0 rfl) ?_
  refine q_callp (va_runV (As := [.int (I ((Mb x1) + 5) 0)]) (rest := []) ⟨hx, hb, hml, hown, hts⟩ (c_P_has l D cs ad hi (isM_P (isM_in g1)) I (I ((Mb x1) + 5) 0)) (cwV 1 hts (gV k_176 k_177 k_178 k_3 k_179) rfl rfl rfl (by decide +kernel) ⟨Nat.le_of_ble_eq_true rfl, Nat.le_of_ble_eq_true rfl⟩) (q_preV hK hP (va_recv hK hP (ci := 2) (q0 := ((Mb x1) + 1)) rfl (mq_P (isM_P (isM_in g1)).1))) rfl rfl hl.1 rfl (lv_room (Nat.le_of_ble_eq_true rfl)) dX4_doNext_24 ⟨Nat.zero_le _, Nat.zero_le _⟩) hS (fun _ h => h) (fun H locs hP hS => ?_)
  refine lv_if_ne (tgt := 32) hx hb dX4_doNext_27 (by decide) (fun c2 => ?_) (fun c2 => ?_)
  · have ok := ok.2 c2
    refine lv_aload_n hx hb dX4_doNext_32 rfl (lv_at hl 2 rfl) ?_
    refine va_get (D := D) (ci := 0) (v := .ref (ad ((Mb x1) + 1))) (C := RX0) (T := TX0) (N := 8) hx hb hts inX0 hown hK hP (Mb x1) (mq_M (isM_O (isM_in g1))) rfl 0 (by decide) (hts _ k_79) (fun _ h9 => h9) rfl dX4_doNext_33 ?_
    refine va_get (D := D) (ci := 2) (v := .ref (ad (((Mb x1) + 1) + 1))) (C := RX2) (T := TX2) (N := 4) hx hb hts inX2 hown hK hP ((Mb x1) + 1) (mq_P (isM_P (isM_in g1)).1) rfl 0 (by decide) (hts _ k_28) (fun _ h9 => h9) rfl dX4_doNext_36 ?_
    refine lv_iload hx hb dX4_doNext_39 (lv_at hl 0 rfl) ?_
    have g3 := ok.1
    have ok := ok.2
    refine va_iald hx hb hK hP (((Mb x1) + 1) + 1) 0 (mq_A (isM_P (isM_in g1)).2.1) rfl g3 dX4_doNext_41 ?_
    refine lv_istore (lv' := [(5, .int (I (((Mb x1) + 1) + 1) ((I ((Mb x1) + 5) 0).toNatClampNeg))), (4, .int (I ((Mb x1) + 5) 0)), (3, .ref (ad ((Mb x1) + 5))), (2, .ref (ad (Mb x1))), (0, .ref (ad 0)), (1, .int x1)]) hx hb dX4_doNext_42 hl (by decide) rfl (fun ls hl => ?_)
    refine lv_aload_n hx hb dX4_doNext_44 rfl (lv_at hl 3 rfl) ?_
    refine va_get (D := D) (ci := 0) (v := .ref (ad ((Mb x1) + 1))) (C := RX0) (T := TX0) (N := 8) hx hb hts inX0 hown hK hP (Mb x1) (mq_M (isM_O (isM_in g1))) rfl 0 (by decide) (hts _ k_79) (fun _ h9 => h9) rfl dX4_doNext_45 ?_
    refine va_get (D := D) (ci := 2) (v := .ref (ad (((Mb x1) + 1) + 2))) (C := RX2) (T := TX2) (N := 4) hx hb hts inX2 hown hK hP ((Mb x1) + 1) (mq_P (isM_P (isM_in g1)).1) rfl 1 (by decide) (hts _ k_30) (fun _ h9 => h9) rfl dX4_doNext_48 ?_
    refine lv_iload hx hb dX4_doNext_51 (lv_at hl 1 rfl) ?_
    refine va_iald hx hb hK hP (((Mb x1) + 1) + 2) 0 (mq_A (isM_P (isM_in g1)).2.2.1) rfl g3 dX4_doNext_53 ?_
    refine lv_istore (lv' := [(6, .int (I (((Mb x1) + 1) + 2) ((I ((Mb x1) + 5) 0).toNatClampNeg))), (5, .int (I (((Mb x1) + 1) + 1) ((I ((Mb x1) + 5) 0).toNatClampNeg))), (4, .int (I ((Mb x1) + 5) 0)), (3, .ref (ad ((Mb x1) + 5))), (2, .ref (ad (Mb x1))), (0, .ref (ad 0)), (1, .int x1)]) hx hb dX4_doNext_54 hl (by decide) rfl (fun ls hl => ?_)
    refine lv_aload_n hx hb dX4_doNext_56 rfl (lv_at hl 4 rfl) ?_
    refine va_get (D := D) (ci := 0) (v := .ref (ad ((Mb x1) + 1))) (C := RX0) (T := TX0) (N := 8) hx hb hts inX0 hown hK hP (Mb x1) (mq_M (isM_O (isM_in g1))) rfl 0 (by decide) (hts _ k_79) (fun _ h9 => h9) rfl dX4_doNext_57 ?_
    refine va_get (D := D) (ci := 2) (v := .ref (ad (((Mb x1) + 1) + 3))) (C := RX2) (T := TX2) (N := 4) hx hb hts inX2 hown hK hP ((Mb x1) + 1) (mq_P (isM_P (isM_in g1)).1) rfl 2 (by decide) (hts _ k_32) (fun _ h9 => h9) rfl dX4_doNext_60 ?_
    refine lv_iload hx hb dX4_doNext_63 (lv_at hl 2 rfl) ?_
    refine va_iald hx hb hK hP (((Mb x1) + 1) + 3) 0 (mq_A (isM_P (isM_in g1)).2.2.2) rfl g3 dX4_doNext_65 ?_
    refine lv_istore (lv' := [(7, .int (I (((Mb x1) + 1) + 3) ((I ((Mb x1) + 5) 0).toNatClampNeg))), (6, .int (I (((Mb x1) + 1) + 2) ((I ((Mb x1) + 5) 0).toNatClampNeg))), (5, .int (I (((Mb x1) + 1) + 1) ((I ((Mb x1) + 5) 0).toNatClampNeg))), (4, .int (I ((Mb x1) + 5) 0)), (3, .ref (ad ((Mb x1) + 5))), (2, .ref (ad (Mb x1))), (0, .ref (ad 0)), (1, .int x1)]) hx hb dX4_doNext_66 hl (by decide) rfl (fun ls hl => ?_)
    refine lv_aload_n hx hb dX4_doNext_68 rfl (lv_at hl 4 rfl) ?_
    refine lv_iload hx hb dX4_doNext_69 (lv_at hl 2 rfl) ?_
    refine lv_iload hx hb dX4_doNext_71 (lv_at hl 1 rfl) ?_
    refine lv_iload hx hb dX4_doNext_73 (lv_at hl 0 rfl) ?_
    have g4 := ok.1
    have ok := ok.2
    refine q_callp (va_runS (As := [.ref (ad ((Mb x1) + 5)), .int (I (((Mb x1) + 1) + 1) ((I ((Mb x1) + 5) 0).toNatClampNeg)), .int (I (((Mb x1) + 1) + 2) ((I ((Mb x1) + 5) 0).toNatClampNeg)), .int (I (((Mb x1) + 1) + 3) ((I ((Mb x1) + 5) 0).toNatClampNeg))]) (rest := []) ⟨hx, hb, hml, hown, hts⟩ (c_G_placeAfter l D cs ad hi (isM_C (isM_in g1)) I (I (((Mb x1) + 1) + 1) ((I ((Mb x1) + 5) 0).toNatClampNeg)) (I (((Mb x1) + 1) + 2) ((I ((Mb x1) + 5) 0).toNatClampNeg)) (I (((Mb x1) + 1) + 3) ((I ((Mb x1) + 5) 0).toNatClampNeg)) g4) (va_cwS 4 hts (gS k_180 k_181 k_1 k_182) rfl rfl rfl (by decide +kernel) ⟨Nat.le_of_ble_eq_true rfl, Nat.le_of_ble_eq_true rfl⟩) (q_preS hK hP) rfl rfl hl.1 rfl (lv_room (Nat.le_of_ble_eq_true rfl)) dX4_doNext_75 ⟨Nat.zero_le _, Nat.zero_le _⟩) hS (fun _ h => h) (fun H locs hP hS => ?_)
    refine lv_istore (lv' := [(8, .int (f_G_placeAfter I ((Mb x1) + 5) (I (((Mb x1) + 1) + 1) ((I ((Mb x1) + 5) 0).toNatClampNeg)) (I (((Mb x1) + 1) + 2) ((I ((Mb x1) + 5) 0).toNatClampNeg)) (I (((Mb x1) + 1) + 3) ((I ((Mb x1) + 5) 0).toNatClampNeg)))), (7, .int (I (((Mb x1) + 1) + 3) ((I ((Mb x1) + 5) 0).toNatClampNeg))), (6, .int (I (((Mb x1) + 1) + 2) ((I ((Mb x1) + 5) 0).toNatClampNeg))), (5, .int (I (((Mb x1) + 1) + 1) ((I ((Mb x1) + 5) 0).toNatClampNeg))), (4, .int (I ((Mb x1) + 5) 0)), (3, .ref (ad ((Mb x1) + 5))), (2, .ref (ad (Mb x1))), (0, .ref (ad 0)), (1, .int x1)]) hx hb dX4_doNext_78 hl (by decide) rfl (fun ls hl => ?_)
    refine lv_aload_n hx hb dX4_doNext_80 rfl (lv_at hl 7 rfl) ?_
    refine lv_iload_n hx hb dX4_doNext_81 rfl (lv_at hl 8 rfl) ?_
    refine lv_iload hx hb dX4_doNext_82 (lv_at hl 3 rfl) ?_
    refine lv_iload hx hb dX4_doNext_84 (lv_at hl 2 rfl) ?_
    refine lv_iload hx hb dX4_doNext_86 (lv_at hl 1 rfl) ?_
    have g5 := ok
    refine q_calli (va_runV (As := [.int x1, .int (I (((Mb x1) + 1) + 1) ((I ((Mb x1) + 5) 0).toNatClampNeg)), .int (I (((Mb x1) + 1) + 2) ((I ((Mb x1) + 5) 0).toNatClampNeg)), .int (I (((Mb x1) + 1) + 3) ((I ((Mb x1) + 5) 0).toNatClampNeg))]) (rest := []) ⟨hx, hb, hml, hown, hts⟩ (c_G_perform l D cs ad hi I x1 (I (((Mb x1) + 1) + 1) ((I ((Mb x1) + 5) 0).toNatClampNeg)) (I (((Mb x1) + 1) + 2) ((I ((Mb x1) + 5) 0).toNatClampNeg)) (I (((Mb x1) + 1) + 3) ((I ((Mb x1) + 5) 0).toNatClampNeg)) g5) (cwV 4 hts (gV k_183 k_184 k_433 k_1 k_185) rfl rfl rfl (by decide +kernel) ⟨Nat.le_of_ble_eq_true rfl, Nat.le_of_ble_eq_true rfl⟩) (q_preV hK hP (va_recv hK hP (ci := 4) (q0 := 0) rfl (mq_G isO_0))) rfl rfl hl.1 rfl (lv_room (Nat.le_of_ble_eq_true rfl)) dX4_doNext_88 ⟨Nat.zero_le _, Nat.zero_le _⟩) hS (fun _ h => h) (fun H locs hP hS => ?_)
    refine lv_if_ne (tgt := 96) hx hb dX4_doNext_91 (by decide) (fun c6 => ?_) (fun c6 => ?_)
    · have c6 := c6
      refine lv_aload_n hx hb dX4_doNext_96 rfl (lv_at hl 5 rfl) ?_
      refine lv_iload hx hb dX4_doNext_97 (lv_at hl 0 rfl) ?_
      refine va_put (D := D) (ci := 3) (v := .int (f_G_placeAfter I ((Mb x1) + 5) (I (((Mb x1) + 1) + 1) ((I ((Mb x1) + 5) 0).toNatClampNeg)) (I (((Mb x1) + 1) + 2) ((I ((Mb x1) + 5) 0).toNatClampNeg)) (I (((Mb x1) + 1) + 3) ((I ((Mb x1) + 5) 0).toNatClampNeg)))) (ty := .int) (C := RX3) (T := TX3) (N := 6) hx hb hts inX3 tyX3 tyX3_ok nmX3 hown hK hP (mD hi) hS ((Mb x1) + 5) (mq_S (isM_C (isM_in g1)).1) rfl 2 (by decide) (hts _ k_49) (fun _ h9 => h9) rfl (by decide +kernel) rfl rfl (Nat.le_of_ble_eq_true rfl) dX4_doNext_99 (fun H locs hP _ hS => ?_)
      have hP := ms_S0 (isM_C (isM_in g1)).1 hP
      have hP : va_P D vwCl (mw 97 ad (gs cs ad (m_G_doNext_1 I x1))) H := hP
      refine lv_aload_n hx hb dX4_doNext_102 rfl (lv_at hl 5 rfl) ?_
      refine lv_dup hx hb dX4_doNext_103 rfl ?_
      refine va_get (D := D) (ci := 3) (v := .int ((m_G_doNext_1 I x1) ((Mb x1) + 5) 1)) (C := RX3) (T := TX3) (N := 6) hx hb hts inX3 hown hK hP ((Mb x1) + 5) (mq_S (isM_C (isM_in g1)).1) rfl 3 (by decide) (hts _ k_51) (fun _ h9 => h9) rfl dX4_doNext_104 ?_
      refine lv_iconst (v := 1) hx hb dX4_doNext_107 (by decide) ?_
      refine lv_iadd hx hb dX4_doNext_108 ?_
      refine va_put (D := D) (ci := 3) (v := .int (((m_G_doNext_1 I x1) ((Mb x1) + 5) 1) + 1)) (ty := .int) (C := RX3) (T := TX3) (N := 6) hx hb hts inX3 tyX3 tyX3_ok nmX3 hown hK hP (mD hi) hS ((Mb x1) + 5) (mq_S (isM_C (isM_in g1)).1) rfl 3 (by decide) (hts _ k_51) (fun _ h9 => h9) rfl (by decide +kernel) rfl rfl (Nat.le_of_ble_eq_true rfl) dX4_doNext_109 (fun H locs hP _ hS => ?_)
      have hP := ms_S1 (isM_C (isM_in g1)).1 hP
      have hP : va_P D vwCl (mw 97 ad (gs cs ad (m_G_doNext_2 I x1))) H := hP
      refine lv_aload_n hx hb dX4_doNext_112 rfl (lv_at hl 6 rfl) ?_
      refine lv_iconst (v := 1) hx hb dX4_doNext_113 (by decide) ?_
      refine va_put (D := D) (ci := 0) (v := .int 1) (ty := .boolean) (C := RX0) (T := TX0) (N := 8) hx hb hts inX0 tyX0 tyX0_ok nmX0 hown hK hP (mD hi) hS (Mb x1) (mq_M (isM_O (isM_in g1))) rfl 5 (by decide) (hts _ k_88) (fun _ h9 => h9) rfl (by decide +kernel) rfl rfl (Nat.le_of_ble_eq_true rfl) dX4_doNext_114 (fun H locs hP _ hS => ?_)
      have hP := ms_M1 (isM_O (isM_in g1)) hP
      have hP : va_P D vwCl (mw 97 ad (gs cs ad (m_G_doNext_3 I x1))) H := hP
      refine lv_iconst (v := 1) hx hb dX4_doNext_117 (by decide) ?_
      exact q_iret hx hb hr hlocks dX4_doNext_118 hP hS (by rw [f_G_doNext, if_neg c2, if_neg c6])
    · have c6 := c6
      refine lv_iconst (v := 0) hx hb dX4_doNext_94 (by decide) ?_
      exact q_iret hx hb hr hlocks dX4_doNext_95 hP hS (by rw [f_G_doNext, if_neg c2, if_pos c6])
  · have ok := ok.1 c2
    refine lv_iconst (v := 2) hx hb dX4_doNext_30 (by decide) ?_
    exact q_iret hx hb hr hlocks dX4_doNext_31 hP hS (by rw [f_G_doNext, if_pos c2])

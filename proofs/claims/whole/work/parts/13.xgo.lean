def m_X_sends_1 (I : Mm) (x1 x2 x3 : Int32) : Mm := u2 I 91 (((8 * ((3 * x1) + x2)) + ((I 89 (((3 * x1) + x2).toNatClampNeg)) - (I 89 (((3 * x1) + x2).toNatClampNeg)) / 8 * 8)).toNatClampNeg) x3
def m_X_sends_2 (I : Mm) (x1 x2 x3 : Int32) : Mm := u2 (m_X_sends_1 I x1 x2 x3) 89 (((3 * x1) + x2).toNatClampNeg) (((m_X_sends_1 I x1 x2 x3) 89 (((3 * x1) + x2).toNatClampNeg)) + 1)
def m_X_sends_3 (I : Mm) (x1 x2 x3 : Int32) : Mm := u2 I 85 x1.toNatClampNeg ((I 85 x1.toNatClampNeg) + 1)
def f_X_sends (I : Mm) (x1 x2 x3 : Int32) : Int32 × Mm := (if (I 89 (((3 * x1) + x2).toNatClampNeg)) ≤ (I 96 x2.toNatClampNeg) then (if ((I 89 (((3 * x1) + x2).toNatClampNeg)) - (I 90 (((3 * x1) + x2).toNatClampNeg))) = 8 then (0, I) else (1, (m_X_sends_2 I x1 x2 x3))) else (1, (m_X_sends_3 I x1 x2 x3)))
def ok_X_sends (I : Mm) (x1 x2 x3 : Int32) : Prop := vp_in x2 3 ∧ (vp_in ((3 * x1) + x2) 9 ∧ (((I 89 (((3 * x1) + x2).toNatClampNeg)) ≤ (I 96 x2.toNatClampNeg) → (((I 89 (((3 * x1) + x2).toNatClampNeg)) - (I 90 (((3 * x1) + x2).toNatClampNeg))) = 8 → True) ∧ (¬ ((I 89 (((3 * x1) + x2).toNatClampNeg)) - (I 90 (((3 * x1) + x2).toNatClampNeg))) = 8 → vp_in ((8 * ((3 * x1) + x2)) + ((I 89 (((3 * x1) + x2).toNatClampNeg)) - (I 89 (((3 * x1) + x2).toNatClampNeg)) / 8 * 8)) 72)) ∧ (¬ (I 89 (((3 * x1) + x2).toNatClampNeg)) ≤ (I 96 x2.toNatClampNeg) → vp_in x1 3)))
theorem z_X_sends (I : Mm) (x1 x2 x3 : Int32) : narrow .boolean (.int (f_X_sends I x1 x2 x3).1) = .int (f_X_sends I x1 x2 x3).1 := by
  unfold f_X_sends
  (repeat' split) <;> first | (with_reducible exact nb0 _) | (with_reducible exact nb1 _)
set_option maxHeartbeats 4000000 in
set_option maxRecDepth 100000 in
theorem c_X_sends (l : Launch) (D : va_G) (cs : Nat → ClassId) (ad : Nat → Nat) (hi : mi ad) (I : Mm) (x1 x2 x3 : Int32) (ok : ok_X_sends I x1 x2 x3) : MC l yX5_sends wX5_sends { frames := 0, cells := 0, slots := 0, locals := 0 } D cs ad [.ref (ad 75), .int x1, .int x2, .int x3] I (some (.int (f_X_sends I x1 x2 x3).1)) (f_X_sends I x1 x2 x3).2 := by
  unfold ok_X_sends at ok
  refine q_enter (cc := cX5_sends) (maxL := 5) (ret := (some .boolean)) (by decide +kernel) rfl (Nat.le_of_ble_eq_true rfl) ?_
  intro p e s m below meth c ls hx hb hr hml hown hts hlocks hK hP hS hl
  have hown : s.vm.findClass RX5 = some m.cls := hown
  have hts : ∀ w ∈ gtbl, w.before _ s = true := fun w h => hts w (List.mem_cons_of_mem _ h)
  have hl : lv_has ls 5 [(0, .ref (ad 75)), (1, .int x1), (2, .int x2), (3, .int x3)] := hl
  refine lv_iconst (v := 3) hx hb dX5_sends_0 (by decide) ?_
  refine lv_iload_n hx hb dX5_sends_1 rfl (lv_at hl 1 rfl) ?_
  refine lv_imul hx hb dX5_sends_2 ?_
  refine lv_iload_n hx hb dX5_sends_3 rfl (lv_at hl 2 rfl) ?_
  refine lv_iadd hx hb dX5_sends_4 ?_
  refine lv_istore (lv' := [(4, .int ((3 * x1) + x2)), (0, .ref (ad 75)), (1, .int x1), (2, .int x2), (3, .int x3)]) hx hb dX5_sends_5 hl (by decide) rfl (fun ls hl => ?_)
  refine lv_aload_n hx hb dX5_sends_7 rfl (lv_at hl 1 rfl) ?_
  refine va_get (D := D) (ci := 5) (v := .ref (ad 96)) (C := RX5) (T := TX5) (N := 26) hx hb hts inX5 hown hK hP 75 (mq_X isO_75) rfl 21 (by decide) (hts _ k_296) (fun _ h9 => h9) rfl dX5_sends_8 ?_
  refine lv_iload_n hx hb dX5_sends_11 rfl (lv_at hl 3 rfl) ?_
  have g1 := ok.1
  have ok := ok.2
  refine va_iald hx hb hK hP 96 0 (mq_A iA_96) rfl g1 dX5_sends_12 ?_
  refine lv_aload_n hx hb dX5_sends_13 rfl (lv_at hl 1 rfl) ?_
  refine va_get (D := D) (ci := 5) (v := .ref (ad 89)) (C := RX5) (T := TX5) (N := 26) hx hb hts inX5 hown hK hP 75 (mq_X isO_75) rfl 13 (by decide) (hts _ k_288) (fun _ h9 => h9) rfl dX5_sends_14 ?_
  refine lv_iload hx hb dX5_sends_17 (lv_at hl 0 rfl) ?_
  have g2 := ok.1
  have ok := ok.2
  refine va_iald hx hb hK hP 89 0 (mq_A iA_89) rfl g2 dX5_sends_19 ?_
  refine lv_icmp_ge (tgt := 35) hx hb dX5_sends_20 (by decide) (fun c3 => ?_) (fun c3 => ?_)
  · have ok := ok.1 c3
    refine lv_aload_n hx hb dX5_sends_35 rfl (lv_at hl 1 rfl) ?_
    refine va_get (D := D) (ci := 5) (v := .ref (ad 89)) (C := RX5) (T := TX5) (N := 26) hx hb hts inX5 hown hK hP 75 (mq_X isO_75) rfl 13 (by decide) (hts _ k_288) (fun _ h9 => h9) rfl dX5_sends_36 ?_
    refine lv_iload hx hb dX5_sends_39 (lv_at hl 0 rfl) ?_
    refine va_iald hx hb hK hP 89 0 (mq_A iA_89) rfl g2 dX5_sends_41 ?_
    refine lv_aload_n hx hb dX5_sends_42 rfl (lv_at hl 1 rfl) ?_
    refine va_get (D := D) (ci := 5) (v := .ref (ad 90)) (C := RX5) (T := TX5) (N := 26) hx hb hts inX5 hown hK hP 75 (mq_X isO_75) rfl 14 (by decide) (hts _ k_289) (fun _ h9 => h9) rfl dX5_sends_43 ?_
    refine lv_iload hx hb dX5_sends_46 (lv_at hl 0 rfl) ?_
    refine va_iald hx hb hK hP 90 0 (mq_A iA_90) rfl g2 dX5_sends_48 ?_
    refine lv_isub hx hb dX5_sends_49 ?_
    refine lv_bipush (v := 8) hx hb dX5_sends_50 (by decide) ?_
    refine lv_icmp_ne (tgt := 57) hx hb dX5_sends_52 (by decide) (fun c4 => ?_) (fun c4 => ?_)
    · have ok := ok.2 c4
      refine lv_aload_n hx hb dX5_sends_57 rfl (lv_at hl 1 rfl) ?_
      refine va_get (D := D) (ci := 5) (v := .ref (ad 91)) (C := RX5) (T := TX5) (N := 26) hx hb hts inX5 hown hK hP 75 (mq_X isO_75) rfl 15 (by decide) (hts _ k_290) (fun _ h9 => h9) rfl dX5_sends_58 ?_
      refine lv_bipush (v := 8) hx hb dX5_sends_61 (by decide) ?_
      refine lv_iload hx hb dX5_sends_63 (lv_at hl 0 rfl) ?_
      refine lv_imul hx hb dX5_sends_65 ?_
      refine lv_aload_n hx hb dX5_sends_66 rfl (lv_at hl 1 rfl) ?_
      refine va_get (D := D) (ci := 5) (v := .ref (ad 89)) (C := RX5) (T := TX5) (N := 26) hx hb hts inX5 hown hK hP 75 (mq_X isO_75) rfl 13 (by decide) (hts _ k_288) (fun _ h9 => h9) rfl dX5_sends_67 ?_
      refine lv_iload hx hb dX5_sends_70 (lv_at hl 0 rfl) ?_
      refine va_iald hx hb hK hP 89 0 (mq_A iA_89) rfl g2 dX5_sends_72 ?_
      refine lv_bipush (v := 8) hx hb dX5_sends_73 (by decide) ?_
      refine lv_irem hx hb dX5_sends_75 (by decide) ?_
      refine lv_iadd hx hb dX5_sends_76 ?_
      refine lv_iload_n hx hb dX5_sends_77 rfl (lv_at hl 4 rfl) ?_
      have g5 := ok
      refine va_iast hx hb hK hP (mD hi) hS 91 0 (mq_A iA_91) rfl g5 dX5_sends_78 (fun H locs hP _ hS => ?_)
      have hP := ms_A iA_91 hP
      have hP : va_P D vwCl (mw 97 ad (gs cs ad (m_X_sends_1 I x1 x2 x3))) H := hP
      refine lv_aload_n hx hb dX5_sends_79 rfl (lv_at hl 1 rfl) ?_
      refine va_get (D := D) (ci := 5) (v := .ref (ad 89)) (C := RX5) (T := TX5) (N := 26) hx hb hts inX5 hown hK hP 75 (mq_X isO_75) rfl 13 (by decide) (hts _ k_288) (fun _ h9 => h9) rfl dX5_sends_80 ?_
      refine lv_iload hx hb dX5_sends_83 (lv_at hl 0 rfl) ?_
      refine lv_dup2_11 hx hb dX5_sends_85 rfl rfl ?_
      refine va_iald hx hb hK hP 89 0 (mq_A iA_89) rfl g2 dX5_sends_86 ?_
      refine lv_iconst (v := 1) hx hb dX5_sends_87 (by decide) ?_
      refine lv_iadd hx hb dX5_sends_88 ?_
      refine va_iast hx hb hK hP (mD hi) hS 89 0 (mq_A iA_89) rfl g2 dX5_sends_89 (fun H locs hP _ hS => ?_)
      have hP := ms_A iA_89 hP
      have hP : va_P D vwCl (mw 97 ad (gs cs ad (m_X_sends_2 I x1 x2 x3))) H := hP
      refine lv_iconst (v := 1) hx hb dX5_sends_90 (by decide) ?_
      exact q_zret hx hb hr hlocks dX5_sends_91 hP hS rfl (by rw [f_X_sends, if_pos c3, if_neg c4])
    · have ok := ok.1 c4
      refine lv_iconst (v := 0) hx hb dX5_sends_55 (by decide) ?_
      exact q_zret hx hb hr hlocks dX5_sends_56 hP hS rfl (by rw [f_X_sends, if_pos c3, if_pos c4])
  · have ok := ok.2 c3
    refine lv_aload_n hx hb dX5_sends_23 rfl (lv_at hl 1 rfl) ?_
    refine va_get (D := D) (ci := 5) (v := .ref (ad 85)) (C := RX5) (T := TX5) (N := 26) hx hb hts inX5 hown hK hP 75 (mq_X isO_75) rfl 9 (by decide) (hts _ k_284) (fun _ h9 => h9) rfl dX5_sends_24 ?_
    refine lv_iload_n hx hb dX5_sends_27 rfl (lv_at hl 2 rfl) ?_
    refine lv_dup2_11 hx hb dX5_sends_28 rfl rfl ?_
    have g6 := ok
    refine va_iald hx hb hK hP 85 0 (mq_A iA_85) rfl g6 dX5_sends_29 ?_
    refine lv_iconst (v := 1) hx hb dX5_sends_30 (by decide) ?_
    refine lv_iadd hx hb dX5_sends_31 ?_
    refine va_iast hx hb hK hP (mD hi) hS 85 0 (mq_A iA_85) rfl g6 dX5_sends_32 (fun H locs hP _ hS => ?_)
    have hP := ms_A iA_85 hP
    have hP : va_P D vwCl (mw 97 ad (gs cs ad (m_X_sends_3 I x1 x2 x3))) H := hP
    refine lv_iconst (v := 1) hx hb dX5_sends_33 (by decide) ?_
    exact q_zret hx hb hr hlocks dX5_sends_34 hP hS rfl (by rw [f_X_sends, if_neg c3])
def m_X_puts_1 (I : Mm) (x1 x2 : Int32) : Mm := u2 I 92 ((I 75 0).toNatClampNeg) x1
def m_X_puts_2 (I : Mm) (x1 x2 : Int32) : Mm := u2 (m_X_puts_1 I x1 x2) 93 (((m_X_puts_1 I x1 x2) 75 0).toNatClampNeg) x2
def m_X_puts_3 (I : Mm) (x1 x2 : Int32) : Mm := u2 (m_X_puts_2 I x1 x2) 75 0 (((m_X_puts_2 I x1 x2) 75 0) + 1)
def m_X_puts_4 (I : Mm) (x1 x2 : Int32) : Mm := u2 (m_X_puts_3 I x1 x2) 94 x1.toNatClampNeg (((m_X_puts_3 I x1 x2) 94 x1.toNatClampNeg) + 1)
def m_X_puts_5 (I : Mm) (x1 x2 : Int32) : Mm := u2 I 85 x1.toNatClampNeg ((I 85 x1.toNatClampNeg) + 1)
def f_X_puts (I : Mm) (x1 x2 : Int32) : Int32 × Mm := (if (I 94 x1.toNatClampNeg) ≤ (I 75 3) then (if (I 75 0) = 60 then (0, I) else (1, (m_X_puts_4 I x1 x2))) else (1, (m_X_puts_5 I x1 x2)))
def ok_X_puts (I : Mm) (x1 x2 : Int32) : Prop := vp_in x1 3 ∧ (((I 94 x1.toNatClampNeg) ≤ (I 75 3) → ((I 75 0) = 60 → True) ∧ (¬ (I 75 0) = 60 → vp_in (I 75 0) 60 ∧ (vp_in ((m_X_puts_1 I x1 x2) 75 0) 60))) ∧ (¬ (I 94 x1.toNatClampNeg) ≤ (I 75 3) → True))
theorem z_X_puts (I : Mm) (x1 x2 : Int32) : narrow .boolean (.int (f_X_puts I x1 x2).1) = .int (f_X_puts I x1 x2).1 := by
  unfold f_X_puts
  (repeat' split) <;> first | (with_reducible exact nb0 _) | (with_reducible exact nb1 _)
set_option maxHeartbeats 4000000 in
set_option maxRecDepth 100000 in
theorem c_X_puts (l : Launch) (D : va_G) (cs : Nat → ClassId) (ad : Nat → Nat) (hi : mi ad) (I : Mm) (x1 x2 : Int32) (ok : ok_X_puts I x1 x2) : MC l yX5_puts wX5_puts { frames := 0, cells := 0, slots := 0, locals := 0 } D cs ad [.ref (ad 75), .int x1, .int x2] I (some (.int (f_X_puts I x1 x2).1)) (f_X_puts I x1 x2).2 := by
  unfold ok_X_puts at ok
  refine q_enter (cc := cX5_puts) (maxL := 3) (ret := (some .boolean)) (by decide +kernel) rfl (Nat.le_of_ble_eq_true rfl) ?_
  intro p e s m below meth c ls hx hb hr hml hown hts hlocks hK hP hS hl
  have hown : s.vm.findClass RX5 = some m.cls := hown
  have hts : ∀ w ∈ gtbl, w.before _ s = true := fun w h => hts w (List.mem_cons_of_mem _ h)
  have hl : lv_has ls 3 [(0, .ref (ad 75)), (1, .int x1), (2, .int x2)] := hl
  refine lv_aload_n hx hb dX5_puts_0 rfl (lv_at hl 0 rfl) ?_
  refine va_get (D := D) (ci := 5) (v := .int (I 75 3)) (C := RX5) (T := TX5) (N := 26) hx hb hts inX5 hown hK hP 75 (mq_X isO_75) rfl 24 (by decide) (hts _ k_299) (fun _ h9 => h9) rfl dX5_puts_1 ?_
  refine lv_aload_n hx hb dX5_puts_4 rfl (lv_at hl 0 rfl) ?_
  refine va_get (D := D) (ci := 5) (v := .ref (ad 94)) (C := RX5) (T := TX5) (N := 26) hx hb hts inX5 hown hK hP 75 (mq_X isO_75) rfl 19 (by decide) (hts _ k_294) (fun _ h9 => h9) rfl dX5_puts_5 ?_
  refine lv_iload_n hx hb dX5_puts_8 rfl (lv_at hl 1 rfl) ?_
  have g1 := ok.1
  have ok := ok.2
  refine va_iald hx hb hK hP 94 0 (mq_A iA_94) rfl g1 dX5_puts_9 ?_
  refine lv_icmp_ge (tgt := 25) hx hb dX5_puts_10 (by decide) (fun c2 => ?_) (fun c2 => ?_)
  · have ok := ok.1 c2
    refine lv_aload_n hx hb dX5_puts_25 rfl (lv_at hl 0 rfl) ?_
    refine va_get (D := D) (ci := 5) (v := .int (I 75 0)) (C := RX5) (T := TX5) (N := 26) hx hb hts inX5 hown hK hP 75 (mq_X isO_75) rfl 16 (by decide) (hts _ k_291) (fun _ h9 => h9) rfl dX5_puts_26 ?_
    refine lv_bipush (v := 60) hx hb dX5_puts_29 (by decide) ?_
    refine lv_icmp_ne (tgt := 36) hx hb dX5_puts_31 (by decide) (fun c3 => ?_) (fun c3 => ?_)
    · have ok := ok.2 c3
      refine lv_aload_n hx hb dX5_puts_36 rfl (lv_at hl 0 rfl) ?_
      refine va_get (D := D) (ci := 5) (v := .ref (ad 92)) (C := RX5) (T := TX5) (N := 26) hx hb hts inX5 hown hK hP 75 (mq_X isO_75) rfl 17 (by decide) (hts _ k_292) (fun _ h9 => h9) rfl dX5_puts_37 ?_
      refine lv_aload_n hx hb dX5_puts_40 rfl (lv_at hl 0 rfl) ?_
      refine va_get (D := D) (ci := 5) (v := .int (I 75 0)) (C := RX5) (T := TX5) (N := 26) hx hb hts inX5 hown hK hP 75 (mq_X isO_75) rfl 16 (by decide) (hts _ k_291) (fun _ h9 => h9) rfl dX5_puts_41 ?_
      refine lv_iload_n hx hb dX5_puts_44 rfl (lv_at hl 1 rfl) ?_
      have g4 := ok.1
      have ok := ok.2
      refine va_iast hx hb hK hP (mD hi) hS 92 0 (mq_A iA_92) rfl g4 dX5_puts_45 (fun H locs hP _ hS => ?_)
      have hP := ms_A iA_92 hP
      have hP : va_P D vwCl (mw 97 ad (gs cs ad (m_X_puts_1 I x1 x2))) H := hP
      refine lv_aload_n hx hb dX5_puts_46 rfl (lv_at hl 0 rfl) ?_
      refine va_get (D := D) (ci := 5) (v := .ref (ad 93)) (C := RX5) (T := TX5) (N := 26) hx hb hts inX5 hown hK hP 75 (mq_X isO_75) rfl 18 (by decide) (hts _ k_293) (fun _ h9 => h9) rfl dX5_puts_47 ?_
      refine lv_aload_n hx hb dX5_puts_50 rfl (lv_at hl 0 rfl) ?_
      refine va_get (D := D) (ci := 5) (v := .int ((m_X_puts_1 I x1 x2) 75 0)) (C := RX5) (T := TX5) (N := 26) hx hb hts inX5 hown hK hP 75 (mq_X isO_75) rfl 16 (by decide) (hts _ k_291) (fun _ h9 => h9) rfl dX5_puts_51 ?_
      refine lv_iload_n hx hb dX5_puts_54 rfl (lv_at hl 2 rfl) ?_
      have g5 := ok
      refine va_iast hx hb hK hP (mD hi) hS 93 0 (mq_A iA_93) rfl g5 dX5_puts_55 (fun H locs hP _ hS => ?_)
      have hP := ms_A iA_93 hP
      have hP : va_P D vwCl (mw 97 ad (gs cs ad (m_X_puts_2 I x1 x2))) H := hP
      refine lv_aload_n hx hb dX5_puts_56 rfl (lv_at hl 0 rfl) ?_
      refine lv_dup hx hb dX5_puts_57 rfl ?_
      refine va_get (D := D) (ci := 5) (v := .int ((m_X_puts_2 I x1 x2) 75 0)) (C := RX5) (T := TX5) (N := 26) hx hb hts inX5 hown hK hP 75 (mq_X isO_75) rfl 16 (by decide) (hts _ k_291) (fun _ h9 => h9) rfl dX5_puts_58 ?_
      refine lv_iconst (v := 1) hx hb dX5_puts_61 (by decide) ?_
      refine lv_iadd hx hb dX5_puts_62 ?_
      refine va_put (D := D) (ci := 5) (v := .int (((m_X_puts_2 I x1 x2) 75 0) + 1)) (ty := .int) (C := RX5) (T := TX5) (N := 26) hx hb hts inX5 tyX5 tyX5_ok nmX5 hown hK hP (mD hi) hS 75 (mq_X isO_75) rfl 16 (by decide) (hts _ k_291) (fun _ h9 => h9) rfl (by decide +kernel) rfl rfl (Nat.le_of_ble_eq_true rfl) dX5_puts_63 (fun H locs hP _ hS => ?_)
      have hP := ms_X0 isO_75 hP
      have hP : va_P D vwCl (mw 97 ad (gs cs ad (m_X_puts_3 I x1 x2))) H := hP
      refine lv_aload_n hx hb dX5_puts_66 rfl (lv_at hl 0 rfl) ?_
      refine va_get (D := D) (ci := 5) (v := .ref (ad 94)) (C := RX5) (T := TX5) (N := 26) hx hb hts inX5 hown hK hP 75 (mq_X isO_75) rfl 19 (by decide) (hts _ k_294) (fun _ h9 => h9) rfl dX5_puts_67 ?_
      refine lv_iload_n hx hb dX5_puts_70 rfl (lv_at hl 1 rfl) ?_
      refine lv_dup2_11 hx hb dX5_puts_71 rfl rfl ?_
      refine va_iald hx hb hK hP 94 0 (mq_A iA_94) rfl g1 dX5_puts_72 ?_
      refine lv_iconst (v := 1) hx hb dX5_puts_73 (by decide) ?_
      refine lv_iadd hx hb dX5_puts_74 ?_
      refine va_iast hx hb hK hP (mD hi) hS 94 0 (mq_A iA_94) rfl g1 dX5_puts_75 (fun H locs hP _ hS => ?_)
      have hP := ms_A iA_94 hP
      have hP : va_P D vwCl (mw 97 ad (gs cs ad (m_X_puts_4 I x1 x2))) H := hP
      refine lv_iconst (v := 1) hx hb dX5_puts_76 (by decide) ?_
      exact q_zret hx hb hr hlocks dX5_puts_77 hP hS rfl (by rw [f_X_puts, if_pos c2, if_neg c3])
    · have ok := ok.1 c3
      refine lv_iconst (v := 0) hx hb dX5_puts_34 (by decide) ?_
      exact q_zret hx hb hr hlocks dX5_puts_35 hP hS rfl (by rw [f_X_puts, if_pos c2, if_pos c3])
  · have ok := ok.2 c2
    refine lv_aload_n hx hb dX5_puts_13 rfl (lv_at hl 0 rfl) ?_
    refine va_get (D := D) (ci := 5) (v := .ref (ad 85)) (C := RX5) (T := TX5) (N := 26) hx hb hts inX5 hown hK hP 75 (mq_X isO_75) rfl 9 (by decide) (hts _ k_284) (fun _ h9 => h9) rfl dX5_puts_14 ?_
    refine lv_iload_n hx hb dX5_puts_17 rfl (lv_at hl 1 rfl) ?_
    refine lv_dup2_11 hx hb dX5_puts_18 rfl rfl ?_
    refine va_iald hx hb hK hP 85 0 (mq_A iA_85) rfl g1 dX5_puts_19 ?_
    refine lv_iconst (v := 1) hx hb dX5_puts_20 (by decide) ?_
    refine lv_iadd hx hb dX5_puts_21 ?_
    refine va_iast hx hb hK hP (mD hi) hS 85 0 (mq_A iA_85) rfl g1 dX5_puts_22 (fun H locs hP _ hS => ?_)
    have hP := ms_A iA_85 hP
    have hP : va_P D vwCl (mw 97 ad (gs cs ad (m_X_puts_5 I x1 x2))) H := hP
    refine lv_iconst (v := 1) hx hb dX5_puts_23 (by decide) ?_
    exact q_zret hx hb hr hlocks dX5_puts_24 hP hS rfl (by rw [f_X_puts, if_neg c2])
def m_X_go_1 (I : Mm) (x1 x2 : Int32) : Mm := u2 I 95 ((I 78 (((16 * x1) + (I 75 1)).toNatClampNeg)).toNatClampNeg) (I 79 (((16 * x1) + (I 75 1)).toNatClampNeg))
def m_X_go_2 (I : Mm) (x1 x2 : Int32) : Mm := u2 (m_X_go_1 I x1 x2) 75 1 ((I 75 1) + 1)
def m_X_go_3 (I : Mm) (x1 x2 : Int32) : Mm := u2 (m_X_go_2 I x1 x2) 75 4 (((m_X_go_2 I x1 x2) 75 4) + 1)
def m_X_go_4 (I : Mm) (x1 x2 : Int32) : Mm := u2 I 95 ((I 78 (((16 * x1) + (I 75 1)).toNatClampNeg)).toNatClampNeg) ((I 95 ((I 78 (((16 * x1) + (I 75 1)).toNatClampNeg)).toNatClampNeg)) + (I 95 ((I 79 (((16 * x1) + (I 75 1)).toNatClampNeg)).toNatClampNeg)))
def m_X_go_5 (I : Mm) (x1 x2 : Int32) : Mm := u2 (m_X_go_4 I x1 x2) 75 1 ((I 75 1) + 1)
def m_X_go_6 (I : Mm) (x1 x2 : Int32) : Mm := u2 (m_X_go_5 I x1 x2) 75 4 (((m_X_go_5 I x1 x2) 75 4) + 1)
def m_X_go_7 (I : Mm) (x1 x2 : Int32) : Mm := u2 I 95 ((I 78 (((16 * x1) + (I 75 1)).toNatClampNeg)).toNatClampNeg) ((I 95 ((I 78 (((16 * x1) + (I 75 1)).toNatClampNeg)).toNatClampNeg)) * (I 95 ((I 79 (((16 * x1) + (I 75 1)).toNatClampNeg)).toNatClampNeg)))
def m_X_go_8 (I : Mm) (x1 x2 : Int32) : Mm := u2 (m_X_go_7 I x1 x2) 75 1 ((I 75 1) + 1)
def m_X_go_9 (I : Mm) (x1 x2 : Int32) : Mm := u2 (m_X_go_8 I x1 x2) 75 4 (((m_X_go_8 I x1 x2) 75 4) + 1)
def m_X_go_10 (I : Mm) (x1 x2 : Int32) : Mm := u2 I 75 1 ((I 75 1) + 1)
def m_X_go_11 (I : Mm) (x1 x2 : Int32) : Mm := u2 (m_X_go_10 I x1 x2) 75 4 (((m_X_go_10 I x1 x2) 75 4) + 1)
def m_X_go_12 (I : Mm) (x1 x2 : Int32) : Mm := u2 I 75 1 ((I 75 1) + 2)
def m_X_go_13 (I : Mm) (x1 x2 : Int32) : Mm := u2 (m_X_go_12 I x1 x2) 75 4 (((m_X_go_12 I x1 x2) 75 4) + 1)
def m_X_go_14 (I : Mm) (x1 x2 : Int32) : Mm := u2 I 75 1 (I 78 (((16 * x1) + (I 75 1)).toNatClampNeg))
def m_X_go_15 (I : Mm) (x1 x2 : Int32) : Mm := u2 (m_X_go_14 I x1 x2) 75 4 (((m_X_go_14 I x1 x2) 75 4) + 1)
def m_X_go_16 (I : Mm) (x1 x2 : Int32) : Mm := u2 I 96 ((I 78 (((16 * x1) + (I 75 1)).toNatClampNeg)).toNatClampNeg) ((I 96 ((I 78 (((16 * x1) + (I 75 1)).toNatClampNeg)).toNatClampNeg)) + 1)
def m_X_go_17 (I : Mm) (x1 x2 : Int32) : Mm := u2 (m_X_go_16 I x1 x2) 75 1 ((I 75 1) + 1)
def m_X_go_18 (I : Mm) (x1 x2 : Int32) : Mm := u2 (m_X_go_17 I x1 x2) 75 4 (((m_X_go_17 I x1 x2) 75 4) + 1)
def m_X_go_19 (I : Mm) (x1 x2 : Int32) : Mm := u2 ((f_X_sends I x1 (I 78 (((16 * x1) + (I 75 1)).toNatClampNeg)) (I 95 ((I 79 (((16 * x1) + (I 75 1)).toNatClampNeg)).toNatClampNeg))).2) 96 ((I 78 (((16 * x1) + (I 75 1)).toNatClampNeg)).toNatClampNeg) ((((f_X_sends I x1 (I 78 (((16 * x1) + (I 75 1)).toNatClampNeg)) (I 95 ((I 79 (((16 * x1) + (I 75 1)).toNatClampNeg)).toNatClampNeg))).2) 96 ((I 78 (((16 * x1) + (I 75 1)).toNatClampNeg)).toNatClampNeg)) + 1)
def m_X_go_20 (I : Mm) (x1 x2 : Int32) : Mm := u2 (m_X_go_19 I x1 x2) 75 1 ((I 75 1) + 1)
def m_X_go_21 (I : Mm) (x1 x2 : Int32) : Mm := u2 (m_X_go_20 I x1 x2) 75 4 (((m_X_go_20 I x1 x2) 75 4) + 1)
def m_X_go_22 (I : Mm) (x1 x2 : Int32) : Mm := u2 I 95 ((I 79 (((16 * x1) + (I 75 1)).toNatClampNeg)).toNatClampNeg) (I 88 (((512 * x1) + (I 75 2)).toNatClampNeg))
def m_X_go_23 (I : Mm) (x1 x2 : Int32) : Mm := u2 (m_X_go_22 I x1 x2) 95 ((I 78 (((16 * x1) + (I 75 1)).toNatClampNeg)).toNatClampNeg) ((m_X_go_22 I x1 x2) 87 (((512 * x1) + ((m_X_go_22 I x1 x2) 75 2)).toNatClampNeg))
def m_X_go_24 (I : Mm) (x1 x2 : Int32) : Mm := u2 (m_X_go_23 I x1 x2) 75 2 (((m_X_go_23 I x1 x2) 75 2) + 1)
def m_X_go_25 (I : Mm) (x1 x2 : Int32) : Mm := u2 (m_X_go_24 I x1 x2) 75 1 ((I 75 1) + 1)
def m_X_go_26 (I : Mm) (x1 x2 : Int32) : Mm := u2 (m_X_go_25 I x1 x2) 75 4 (((m_X_go_25 I x1 x2) 75 4) + 1)
def m_X_go_27 (I : Mm) (x1 x2 : Int32) : Mm := u2 I 75 3 ((I 75 3) + 1)
def m_X_go_28 (I : Mm) (x1 x2 : Int32) : Mm := u2 (m_X_go_27 I x1 x2) 75 1 ((I 75 1) + 1)
def m_X_go_29 (I : Mm) (x1 x2 : Int32) : Mm := u2 (m_X_go_28 I x1 x2) 75 4 (((m_X_go_28 I x1 x2) 75 4) + 1)
def m_X_go_30 (I : Mm) (x1 x2 : Int32) : Mm := u2 ((f_X_puts I x1 (I 95 ((I 78 (((16 * x1) + (I 75 1)).toNatClampNeg)).toNatClampNeg))).2) 75 3 ((((f_X_puts I x1 (I 95 ((I 78 (((16 * x1) + (I 75 1)).toNatClampNeg)).toNatClampNeg))).2) 75 3) + 1)
def m_X_go_31 (I : Mm) (x1 x2 : Int32) : Mm := u2 (m_X_go_30 I x1 x2) 75 1 ((I 75 1) + 1)
def m_X_go_32 (I : Mm) (x1 x2 : Int32) : Mm := u2 (m_X_go_31 I x1 x2) 75 4 (((m_X_go_31 I x1 x2) 75 4) + 1)
def f_X_go (I : Mm) (x1 x2 : Int32) : Int32 × Mm := (if (I 75 1) < (I 76 x1.toNatClampNeg) then (if (I 77 (((16 * x1) + (I 75 1)).toNatClampNeg)) = 0 then (1, (m_X_go_3 I x1 x2)) else (if (I 77 (((16 * x1) + (I 75 1)).toNatClampNeg)) = 1 then (1, (m_X_go_6 I x1 x2)) else (if (I 77 (((16 * x1) + (I 75 1)).toNatClampNeg)) = 2 then (1, (m_X_go_9 I x1 x2)) else (if (I 77 (((16 * x1) + (I 75 1)).toNatClampNeg)) = 3 then (if (I 95 ((I 79 (((16 * x1) + (I 75 1)).toNatClampNeg)).toNatClampNeg)) ≤ (I 95 ((I 78 (((16 * x1) + (I 75 1)).toNatClampNeg)).toNatClampNeg)) then (1, (m_X_go_11 I x1 x2)) else (1, (m_X_go_13 I x1 x2))) else (if (I 77 (((16 * x1) + (I 75 1)).toNatClampNeg)) = 4 then (1, (m_X_go_15 I x1 x2)) else (if (I 77 (((16 * x1) + (I 75 1)).toNatClampNeg)) = 5 then (if x2 = 0 then (if ((f_X_sends I x1 (I 78 (((16 * x1) + (I 75 1)).toNatClampNeg)) (I 95 ((I 79 (((16 * x1) + (I 75 1)).toNatClampNeg)).toNatClampNeg))).1) = 0 then (0, (f_X_sends I x1 (I 78 (((16 * x1) + (I 75 1)).toNatClampNeg)) (I 95 ((I 79 (((16 * x1) + (I 75 1)).toNatClampNeg)).toNatClampNeg))).2) else (1, (m_X_go_21 I x1 x2))) else (1, (m_X_go_18 I x1 x2))) else (if (I 77 (((16 * x1) + (I 75 1)).toNatClampNeg)) = 6 then (if (I 75 2) = (I 86 x1.toNatClampNeg) then (0, I) else (1, (m_X_go_26 I x1 x2))) else (if x2 = 0 then (if ((f_X_puts I x1 (I 95 ((I 78 (((16 * x1) + (I 75 1)).toNatClampNeg)).toNatClampNeg))).1) = 0 then (0, (f_X_puts I x1 (I 95 ((I 78 (((16 * x1) + (I 75 1)).toNatClampNeg)).toNatClampNeg))).2) else (1, (m_X_go_32 I x1 x2))) else (1, (m_X_go_29 I x1 x2)))))))))) else (2, I))
def ok_X_go (I : Mm) (x1 x2 : Int32) : Prop := vp_in x1 3 ∧ (((I 75 1) < (I 76 x1.toNatClampNeg) → vp_in ((16 * x1) + (I 75 1)) 48 ∧ (((I 77 (((16 * x1) + (I 75 1)).toNatClampNeg)) = 0 → vp_in (I 78 (((16 * x1) + (I 75 1)).toNatClampNeg)) 4) ∧ (¬ (I 77 (((16 * x1) + (I 75 1)).toNatClampNeg)) = 0 → ((I 77 (((16 * x1) + (I 75 1)).toNatClampNeg)) = 1 → vp_in (I 78 (((16 * x1) + (I 75 1)).toNatClampNeg)) 4 ∧ (vp_in (I 79 (((16 * x1) + (I 75 1)).toNatClampNeg)) 4)) ∧ (¬ (I 77 (((16 * x1) + (I 75 1)).toNatClampNeg)) = 1 → ((I 77 (((16 * x1) + (I 75 1)).toNatClampNeg)) = 2 → vp_in (I 78 (((16 * x1) + (I 75 1)).toNatClampNeg)) 4 ∧ (vp_in (I 79 (((16 * x1) + (I 75 1)).toNatClampNeg)) 4)) ∧ (¬ (I 77 (((16 * x1) + (I 75 1)).toNatClampNeg)) = 2 → ((I 77 (((16 * x1) + (I 75 1)).toNatClampNeg)) = 3 → vp_in (I 78 (((16 * x1) + (I 75 1)).toNatClampNeg)) 4 ∧ (vp_in (I 79 (((16 * x1) + (I 75 1)).toNatClampNeg)) 4)) ∧ (¬ (I 77 (((16 * x1) + (I 75 1)).toNatClampNeg)) = 3 → ((I 77 (((16 * x1) + (I 75 1)).toNatClampNeg)) = 4 → True) ∧ (¬ (I 77 (((16 * x1) + (I 75 1)).toNatClampNeg)) = 4 → ((I 77 (((16 * x1) + (I 75 1)).toNatClampNeg)) = 5 → (x2 = 0 → vp_in (I 79 (((16 * x1) + (I 75 1)).toNatClampNeg)) 4 ∧ (ok_X_sends I x1 (I 78 (((16 * x1) + (I 75 1)).toNatClampNeg)) (I 95 ((I 79 (((16 * x1) + (I 75 1)).toNatClampNeg)).toNatClampNeg)) ∧ ((((f_X_sends I x1 (I 78 (((16 * x1) + (I 75 1)).toNatClampNeg)) (I 95 ((I 79 (((16 * x1) + (I 75 1)).toNatClampNeg)).toNatClampNeg))).1) = 0 → True) ∧ (¬ ((f_X_sends I x1 (I 78 (((16 * x1) + (I 75 1)).toNatClampNeg)) (I 95 ((I 79 (((16 * x1) + (I 75 1)).toNatClampNeg)).toNatClampNeg))).1) = 0 → vp_in (I 78 (((16 * x1) + (I 75 1)).toNatClampNeg)) 3)))) ∧ (¬ x2 = 0 → vp_in (I 78 (((16 * x1) + (I 75 1)).toNatClampNeg)) 3)) ∧ (¬ (I 77 (((16 * x1) + (I 75 1)).toNatClampNeg)) = 5 → ((I 77 (((16 * x1) + (I 75 1)).toNatClampNeg)) = 6 → ((I 75 2) = (I 86 x1.toNatClampNeg) → True) ∧ (¬ (I 75 2) = (I 86 x1.toNatClampNeg) → vp_in ((512 * x1) + (I 75 2)) 1536 ∧ (vp_in (I 79 (((16 * x1) + (I 75 1)).toNatClampNeg)) 4 ∧ (vp_in ((512 * x1) + ((m_X_go_22 I x1 x2) 75 2)) 1536 ∧ (vp_in (I 78 (((16 * x1) + (I 75 1)).toNatClampNeg)) 4))))) ∧ (¬ (I 77 (((16 * x1) + (I 75 1)).toNatClampNeg)) = 6 → (x2 = 0 → vp_in (I 78 (((16 * x1) + (I 75 1)).toNatClampNeg)) 4 ∧ (ok_X_puts I x1 (I 95 ((I 78 (((16 * x1) + (I 75 1)).toNatClampNeg)).toNatClampNeg)))) ∧ (¬ x2 = 0 → True)))))))))) ∧ (¬ (I 75 1) < (I 76 x1.toNatClampNeg) → True))
set_option maxHeartbeats 4000000 in
set_option maxRecDepth 100000 in
theorem c_X_go (l : Launch) (D : va_G) (cs : Nat → ClassId) (ad : Nat → Nat) (hi : mi ad) (I : Mm) (x1 x2 : Int32) (ok : ok_X_go I x1 x2) : MC l yX5_go wX5_go { frames := 1, cells := 0, slots := 0, locals := 24 } D cs ad [.ref (ad 75), .int x1, .int x2] I (some (.int (f_X_go I x1 x2).1)) (f_X_go I x1 x2).2 := by
  unfold ok_X_go at ok
  refine q_enter (cc := cX5_go) (maxL := 7) (ret := (some .int)) (by decide +kernel) rfl (Nat.le_of_ble_eq_true rfl) ?_
  intro p e s m below meth c ls hx hb hr hml hown hts hlocks hK hP hS hl
  have hown : s.vm.findClass RX5 = some m.cls := hown
  have hts : ∀ w ∈ gtbl, w.before _ s = true := fun w h => hts w (List.mem_cons_of_mem _ h)
  have hl : lv_has ls 7 [(0, .ref (ad 75)), (1, .int x1), (2, .int x2)] := hl
  refine lv_aload_n hx hb dX5_go_0 rfl (lv_at hl 0 rfl) ?_
  refine va_get (D := D) (ci := 5) (v := .int (I 75 1)) (C := RX5) (T := TX5) (N := 26) hx hb hts inX5 hown hK hP 75 (mq_X isO_75) rfl 22 (by decide) (hts _ k_297) (fun _ h9 => h9) rfl dX5_go_1 ?_
  refine lv_aload_n hx hb dX5_go_4 rfl (lv_at hl 0 rfl) ?_
  refine va_get (D := D) (ci := 5) (v := .ref (ad 76)) (C := RX5) (T := TX5) (N := 26) hx hb hts inX5 hown hK hP 75 (mq_X isO_75) rfl 0 (by decide) (hts _ k_275) (fun _ h9 => h9) rfl dX5_go_5 ?_
  refine lv_iload_n hx hb dX5_go_8 rfl (lv_at hl 1 rfl) ?_
  have g1 := ok.1
  have ok := ok.2
  refine va_iald hx hb hK hP 76 0 (mq_A iA_76) rfl g1 dX5_go_9 ?_
  refine lv_icmp_lt (tgt := 15) hx hb dX5_go_10 (by decide) (fun c2 => ?_) (fun c2 => ?_)
  · have ok := ok.1 c2
    refine lv_bipush (v := 16) hx hb dX5_go_15 (by decide) ?_
    refine lv_iload_n hx hb dX5_go_17 rfl (lv_at hl 1 rfl) ?_
    refine lv_imul hx hb dX5_go_18 ?_
    refine lv_aload_n hx hb dX5_go_19 rfl (lv_at hl 0 rfl) ?_
    refine va_get (D := D) (ci := 5) (v := .int (I 75 1)) (C := RX5) (T := TX5) (N := 26) hx hb hts inX5 hown hK hP 75 (mq_X isO_75) rfl 22 (by decide) (hts _ k_297) (fun _ h9 => h9) rfl dX5_go_20 ?_
    refine lv_iadd hx hb dX5_go_23 ?_
    refine lv_istore_n (lv' := [(3, .int ((16 * x1) + (I 75 1))), (0, .ref (ad 75)), (1, .int x1), (2, .int x2)]) hx hb dX5_go_24 rfl hl (by decide) rfl (fun ls hl => ?_)
    refine lv_aload_n hx hb dX5_go_25 rfl (lv_at hl 1 rfl) ?_
    refine va_get (D := D) (ci := 5) (v := .ref (ad 78)) (C := RX5) (T := TX5) (N := 26) hx hb hts inX5 hown hK hP 75 (mq_X isO_75) rfl 2 (by decide) (hts _ k_277) (fun _ h9 => h9) rfl dX5_go_26 ?_
    refine lv_iload_n hx hb dX5_go_29 rfl (lv_at hl 0 rfl) ?_
    have g3 := ok.1
    have ok := ok.2
    refine va_iald hx hb hK hP 78 0 (mq_A iA_78) rfl g3 dX5_go_30 ?_
    refine lv_istore (lv' := [(4, .int (I 78 (((16 * x1) + (I 75 1)).toNatClampNeg))), (3, .int ((16 * x1) + (I 75 1))), (0, .ref (ad 75)), (1, .int x1), (2, .int x2)]) hx hb dX5_go_31 hl (by decide) rfl (fun ls hl => ?_)
    refine lv_aload_n hx hb dX5_go_33 rfl (lv_at hl 2 rfl) ?_
    refine va_get (D := D) (ci := 5) (v := .ref (ad 79)) (C := RX5) (T := TX5) (N := 26) hx hb hts inX5 hown hK hP 75 (mq_X isO_75) rfl 3 (by decide) (hts _ k_278) (fun _ h9 => h9) rfl dX5_go_34 ?_
    refine lv_iload_n hx hb dX5_go_37 rfl (lv_at hl 1 rfl) ?_
    refine va_iald hx hb hK hP 79 0 (mq_A iA_79) rfl g3 dX5_go_38 ?_
    refine lv_istore (lv' := [(5, .int (I 79 (((16 * x1) + (I 75 1)).toNatClampNeg))), (4, .int (I 78 (((16 * x1) + (I 75 1)).toNatClampNeg))), (3, .int ((16 * x1) + (I 75 1))), (0, .ref (ad 75)), (1, .int x1), (2, .int x2)]) hx hb dX5_go_39 hl (by decide) rfl (fun ls hl => ?_)
    refine lv_aload_n hx hb dX5_go_41 rfl (lv_at hl 3 rfl) ?_
    refine va_get (D := D) (ci := 5) (v := .int (I 75 1)) (C := RX5) (T := TX5) (N := 26) hx hb hts inX5 hown hK hP 75 (mq_X isO_75) rfl 22 (by decide) (hts _ k_297) (fun _ h9 => h9) rfl dX5_go_42 ?_
    refine lv_iconst (v := 1) hx hb dX5_go_45 (by decide) ?_
    refine lv_iadd hx hb dX5_go_46 ?_
    refine lv_istore (lv' := [(6, .int ((I 75 1) + 1)), (5, .int (I 79 (((16 * x1) + (I 75 1)).toNatClampNeg))), (4, .int (I 78 (((16 * x1) + (I 75 1)).toNatClampNeg))), (3, .int ((16 * x1) + (I 75 1))), (0, .ref (ad 75)), (1, .int x1), (2, .int x2)]) hx hb dX5_go_47 hl (by decide) rfl (fun ls hl => ?_)
    refine lv_aload_n hx hb dX5_go_49 rfl (lv_at hl 4 rfl) ?_
    refine va_get (D := D) (ci := 5) (v := .ref (ad 77)) (C := RX5) (T := TX5) (N := 26) hx hb hts inX5 hown hK hP 75 (mq_X isO_75) rfl 1 (by decide) (hts _ k_276) (fun _ h9 => h9) rfl dX5_go_50 ?_
    refine lv_iload_n hx hb dX5_go_53 rfl (lv_at hl 3 rfl) ?_
    refine va_iald hx hb hK hP 77 0 (mq_A iA_77) rfl g3 dX5_go_54 ?_
    by_cases c4 : (I 77 (((16 * x1) + (I 75 1)).toNatClampNeg)) = 0
    · have ok := ok.1 c4
      refine lv_tableIn (tgt := 96) (off := 41) hx hb dX5_go_55 (by rw [c4]; decide) (by rw [c4]; decide) (by rw [c4]; rfl) (by decide) ?_
      refine lv_aload_n hx hb dX5_go_96 rfl (lv_at hl 4 rfl) ?_
      refine va_get (D := D) (ci := 5) (v := .ref (ad 95)) (C := RX5) (T := TX5) (N := 26) hx hb hts inX5 hown hK hP 75 (mq_X isO_75) rfl 20 (by decide) (hts _ k_295) (fun _ h9 => h9) rfl dX5_go_97 ?_
      refine lv_iload hx hb dX5_go_100 (lv_at hl 2 rfl) ?_
      refine lv_iload hx hb dX5_go_102 (lv_at hl 1 rfl) ?_
      have g5 := ok
      refine va_iast hx hb hK hP (mD hi) hS 95 0 (mq_A iA_95) rfl g5 dX5_go_104 (fun H locs hP _ hS => ?_)
      have hP := ms_A iA_95 hP
      have hP : va_P D vwCl (mw 97 ad (gs cs ad (m_X_go_1 I x1 x2))) H := hP
      refine lv_goto (tgt := 338) hx hb dX5_go_105 (by decide) ?_
      refine lv_aload_n hx hb dX5_go_338 rfl (lv_at hl 4 rfl) ?_
      refine lv_iload hx hb dX5_go_339 (lv_at hl 0 rfl) ?_
      refine va_put (D := D) (ci := 5) (v := .int ((I 75 1) + 1)) (ty := .int) (C := RX5) (T := TX5) (N := 26) hx hb hts inX5 tyX5 tyX5_ok nmX5 hown hK hP (mD hi) hS 75 (mq_X isO_75) rfl 22 (by decide) (hts _ k_297) (fun _ h9 => h9) rfl (by decide +kernel) rfl rfl (Nat.le_of_ble_eq_true rfl) dX5_go_341 (fun H locs hP _ hS => ?_)
      have hP := ms_X1 isO_75 hP
      have hP : va_P D vwCl (mw 97 ad (gs cs ad (m_X_go_2 I x1 x2))) H := hP
      refine lv_aload_n hx hb dX5_go_344 rfl (lv_at hl 4 rfl) ?_
      refine lv_dup hx hb dX5_go_345 rfl ?_
      refine va_get (D := D) (ci := 5) (v := .int ((m_X_go_2 I x1 x2) 75 4)) (C := RX5) (T := TX5) (N := 26) hx hb hts inX5 hown hK hP 75 (mq_X isO_75) rfl 25 (by decide) (hts _ k_300) (fun _ h9 => h9) rfl dX5_go_346 ?_
      refine lv_iconst (v := 1) hx hb dX5_go_349 (by decide) ?_
      refine lv_iadd hx hb dX5_go_350 ?_
      refine va_put (D := D) (ci := 5) (v := .int (((m_X_go_2 I x1 x2) 75 4) + 1)) (ty := .int) (C := RX5) (T := TX5) (N := 26) hx hb hts inX5 tyX5 tyX5_ok nmX5 hown hK hP (mD hi) hS 75 (mq_X isO_75) rfl 25 (by decide) (hts _ k_300) (fun _ h9 => h9) rfl (by decide +kernel) rfl rfl (Nat.le_of_ble_eq_true rfl) dX5_go_351 (fun H locs hP _ hS => ?_)
      have hP := ms_X4 isO_75 hP
      have hP : va_P D vwCl (mw 97 ad (gs cs ad (m_X_go_3 I x1 x2))) H := hP
      refine lv_iconst (v := 1) hx hb dX5_go_354 (by decide) ?_
      exact q_iret hx hb hr hlocks dX5_go_355 hP hS (by rw [f_X_go, if_pos c2, if_pos c4])
    · have ok := ok.2 c4
      by_cases c6 : (I 77 (((16 * x1) + (I 75 1)).toNatClampNeg)) = 1
      · have ok := ok.1 c6
        refine lv_tableIn (tgt := 108) (off := 53) hx hb dX5_go_55 (by rw [c6]; decide) (by rw [c6]; decide) (by rw [c6]; rfl) (by decide) ?_
        refine lv_aload_n hx hb dX5_go_108 rfl (lv_at hl 4 rfl) ?_
        refine va_get (D := D) (ci := 5) (v := .ref (ad 95)) (C := RX5) (T := TX5) (N := 26) hx hb hts inX5 hown hK hP 75 (mq_X isO_75) rfl 20 (by decide) (hts _ k_295) (fun _ h9 => h9) rfl dX5_go_109 ?_
        refine lv_iload hx hb dX5_go_112 (lv_at hl 2 rfl) ?_
        refine lv_aload_n hx hb dX5_go_114 rfl (lv_at hl 4 rfl) ?_
        refine va_get (D := D) (ci := 5) (v := .ref (ad 95)) (C := RX5) (T := TX5) (N := 26) hx hb hts inX5 hown hK hP 75 (mq_X isO_75) rfl 20 (by decide) (hts _ k_295) (fun _ h9 => h9) rfl dX5_go_115 ?_
        refine lv_iload hx hb dX5_go_118 (lv_at hl 2 rfl) ?_
        have g7 := ok.1
        have ok := ok.2
        refine va_iald hx hb hK hP 95 0 (mq_A iA_95) rfl g7 dX5_go_120 ?_
        refine lv_aload_n hx hb dX5_go_121 rfl (lv_at hl 4 rfl) ?_
        refine va_get (D := D) (ci := 5) (v := .ref (ad 95)) (C := RX5) (T := TX5) (N := 26) hx hb hts inX5 hown hK hP 75 (mq_X isO_75) rfl 20 (by decide) (hts _ k_295) (fun _ h9 => h9) rfl dX5_go_122 ?_
        refine lv_iload hx hb dX5_go_125 (lv_at hl 1 rfl) ?_
        have g8 := ok
        refine va_iald hx hb hK hP 95 0 (mq_A iA_95) rfl g8 dX5_go_127 ?_
        refine lv_iadd hx hb dX5_go_128 ?_
        refine va_iast hx hb hK hP (mD hi) hS 95 0 (mq_A iA_95) rfl g7 dX5_go_129 (fun H locs hP _ hS => ?_)
        have hP := ms_A iA_95 hP
        have hP : va_P D vwCl (mw 97 ad (gs cs ad (m_X_go_4 I x1 x2))) H := hP
        refine lv_goto (tgt := 338) hx hb dX5_go_130 (by decide) ?_
        refine lv_aload_n hx hb dX5_go_338 rfl (lv_at hl 4 rfl) ?_
        refine lv_iload hx hb dX5_go_339 (lv_at hl 0 rfl) ?_
        refine va_put (D := D) (ci := 5) (v := .int ((I 75 1) + 1)) (ty := .int) (C := RX5) (T := TX5) (N := 26) hx hb hts inX5 tyX5 tyX5_ok nmX5 hown hK hP (mD hi) hS 75 (mq_X isO_75) rfl 22 (by decide) (hts _ k_297) (fun _ h9 => h9) rfl (by decide +kernel) rfl rfl (Nat.le_of_ble_eq_true rfl) dX5_go_341 (fun H locs hP _ hS => ?_)
        have hP := ms_X1 isO_75 hP
        have hP : va_P D vwCl (mw 97 ad (gs cs ad (m_X_go_5 I x1 x2))) H := hP
        refine lv_aload_n hx hb dX5_go_344 rfl (lv_at hl 4 rfl) ?_
        refine lv_dup hx hb dX5_go_345 rfl ?_
        refine va_get (D := D) (ci := 5) (v := .int ((m_X_go_5 I x1 x2) 75 4)) (C := RX5) (T := TX5) (N := 26) hx hb hts inX5 hown hK hP 75 (mq_X isO_75) rfl 25 (by decide) (hts _ k_300) (fun _ h9 => h9) rfl dX5_go_346 ?_
        refine lv_iconst (v := 1) hx hb dX5_go_349 (by decide) ?_
        refine lv_iadd hx hb dX5_go_350 ?_
        refine va_put (D := D) (ci := 5) (v := .int (((m_X_go_5 I x1 x2) 75 4) + 1)) (ty := .int) (C := RX5) (T := TX5) (N := 26) hx hb hts inX5 tyX5 tyX5_ok nmX5 hown hK hP (mD hi) hS 75 (mq_X isO_75) rfl 25 (by decide) (hts _ k_300) (fun _ h9 => h9) rfl (by decide +kernel) rfl rfl (Nat.le_of_ble_eq_true rfl) dX5_go_351 (fun H locs hP _ hS => ?_)
        have hP := ms_X4 isO_75 hP
        have hP : va_P D vwCl (mw 97 ad (gs cs ad (m_X_go_6 I x1 x2))) H := hP
        refine lv_iconst (v := 1) hx hb dX5_go_354 (by decide) ?_
        exact q_iret hx hb hr hlocks dX5_go_355 hP hS (by rw [f_X_go, if_pos c2, if_neg c4, if_pos c6])
      · have ok := ok.2 c6
        by_cases c9 : (I 77 (((16 * x1) + (I 75 1)).toNatClampNeg)) = 2
        · have ok := ok.1 c9
          refine lv_tableIn (tgt := 133) (off := 78) hx hb dX5_go_55 (by rw [c9]; decide) (by rw [c9]; decide) (by rw [c9]; rfl) (by decide) ?_
          refine lv_aload_n hx hb dX5_go_133 rfl (lv_at hl 4 rfl) ?_
          refine va_get (D := D) (ci := 5) (v := .ref (ad 95)) (C := RX5) (T := TX5) (N := 26) hx hb hts inX5 hown hK hP 75 (mq_X isO_75) rfl 20 (by decide) (hts _ k_295) (fun _ h9 => h9) rfl dX5_go_134 ?_
          refine lv_iload hx hb dX5_go_137 (lv_at hl 2 rfl) ?_
          refine lv_aload_n hx hb dX5_go_139 rfl (lv_at hl 4 rfl) ?_
          refine va_get (D := D) (ci := 5) (v := .ref (ad 95)) (C := RX5) (T := TX5) (N := 26) hx hb hts inX5 hown hK hP 75 (mq_X isO_75) rfl 20 (by decide) (hts _ k_295) (fun _ h9 => h9) rfl dX5_go_140 ?_
          refine lv_iload hx hb dX5_go_143 (lv_at hl 2 rfl) ?_
          have g10 := ok.1
          have ok := ok.2
          refine va_iald hx hb hK hP 95 0 (mq_A iA_95) rfl g10 dX5_go_145 ?_
          refine lv_aload_n hx hb dX5_go_146 rfl (lv_at hl 4 rfl) ?_
          refine va_get (D := D) (ci := 5) (v := .ref (ad 95)) (C := RX5) (T := TX5) (N := 26) hx hb hts inX5 hown hK hP 75 (mq_X isO_75) rfl 20 (by decide) (hts _ k_295) (fun _ h9 => h9) rfl dX5_go_147 ?_
          refine lv_iload hx hb dX5_go_150 (lv_at hl 1 rfl) ?_
          have g11 := ok
          refine va_iald hx hb hK hP 95 0 (mq_A iA_95) rfl g11 dX5_go_152 ?_
          refine lv_imul hx hb dX5_go_153 ?_
          refine va_iast hx hb hK hP (mD hi) hS 95 0 (mq_A iA_95) rfl g10 dX5_go_154 (fun H locs hP _ hS => ?_)
          have hP := ms_A iA_95 hP
          have hP : va_P D vwCl (mw 97 ad (gs cs ad (m_X_go_7 I x1 x2))) H := hP
          refine lv_goto (tgt := 338) hx hb dX5_go_155 (by decide) ?_
          refine lv_aload_n hx hb dX5_go_338 rfl (lv_at hl 4 rfl) ?_
          refine lv_iload hx hb dX5_go_339 (lv_at hl 0 rfl) ?_
          refine va_put (D := D) (ci := 5) (v := .int ((I 75 1) + 1)) (ty := .int) (C := RX5) (T := TX5) (N := 26) hx hb hts inX5 tyX5 tyX5_ok nmX5 hown hK hP (mD hi) hS 75 (mq_X isO_75) rfl 22 (by decide) (hts _ k_297) (fun _ h9 => h9) rfl (by decide +kernel) rfl rfl (Nat.le_of_ble_eq_true rfl) dX5_go_341 (fun H locs hP _ hS => ?_)
          have hP := ms_X1 isO_75 hP
          have hP : va_P D vwCl (mw 97 ad (gs cs ad (m_X_go_8 I x1 x2))) H := hP
          refine lv_aload_n hx hb dX5_go_344 rfl (lv_at hl 4 rfl) ?_
          refine lv_dup hx hb dX5_go_345 rfl ?_
          refine va_get (D := D) (ci := 5) (v := .int ((m_X_go_8 I x1 x2) 75 4)) (C := RX5) (T := TX5) (N := 26) hx hb hts inX5 hown hK hP 75 (mq_X isO_75) rfl 25 (by decide) (hts _ k_300) (fun _ h9 => h9) rfl dX5_go_346 ?_
          refine lv_iconst (v := 1) hx hb dX5_go_349 (by decide) ?_
          refine lv_iadd hx hb dX5_go_350 ?_
          refine va_put (D := D) (ci := 5) (v := .int (((m_X_go_8 I x1 x2) 75 4) + 1)) (ty := .int) (C := RX5) (T := TX5) (N := 26) hx hb hts inX5 tyX5 tyX5_ok nmX5 hown hK hP (mD hi) hS 75 (mq_X isO_75) rfl 25 (by decide) (hts _ k_300) (fun _ h9 => h9) rfl (by decide +kernel) rfl rfl (Nat.le_of_ble_eq_true rfl) dX5_go_351 (fun H locs hP _ hS => ?_)
          have hP := ms_X4 isO_75 hP
          have hP : va_P D vwCl (mw 97 ad (gs cs ad (m_X_go_9 I x1 x2))) H := hP
          refine lv_iconst (v := 1) hx hb dX5_go_354 (by decide) ?_
          exact q_iret hx hb hr hlocks dX5_go_355 hP hS (by rw [f_X_go, if_pos c2, if_neg c4, if_neg c6, if_pos c9])
        · have ok := ok.2 c9
          by_cases c12 : (I 77 (((16 * x1) + (I 75 1)).toNatClampNeg)) = 3
          · have ok := ok.1 c12
            refine lv_tableIn (tgt := 158) (off := 103) hx hb dX5_go_55 (by rw [c12]; decide) (by rw [c12]; decide) (by rw [c12]; rfl) (by decide) ?_
            refine lv_aload_n hx hb dX5_go_158 rfl (lv_at hl 4 rfl) ?_
            refine va_get (D := D) (ci := 5) (v := .ref (ad 95)) (C := RX5) (T := TX5) (N := 26) hx hb hts inX5 hown hK hP 75 (mq_X isO_75) rfl 20 (by decide) (hts _ k_295) (fun _ h9 => h9) rfl dX5_go_159 ?_
            refine lv_iload hx hb dX5_go_162 (lv_at hl 2 rfl) ?_
            have g13 := ok.1
            have ok := ok.2
            refine va_iald hx hb hK hP 95 0 (mq_A iA_95) rfl g13 dX5_go_164 ?_
            refine lv_aload_n hx hb dX5_go_165 rfl (lv_at hl 4 rfl) ?_
            refine va_get (D := D) (ci := 5) (v := .ref (ad 95)) (C := RX5) (T := TX5) (N := 26) hx hb hts inX5 hown hK hP 75 (mq_X isO_75) rfl 20 (by decide) (hts _ k_295) (fun _ h9 => h9) rfl dX5_go_166 ?_
            refine lv_iload hx hb dX5_go_169 (lv_at hl 1 rfl) ?_
            have g14 := ok
            refine va_iald hx hb hK hP 95 0 (mq_A iA_95) rfl g14 dX5_go_171 ?_
            refine lv_icmp_ge (tgt := 184) hx hb dX5_go_172 (by decide) (fun c15 => ?_) (fun c15 => ?_)
            · have c15 := c15
              refine lv_iload hx hb dX5_go_184 (lv_at hl 0 rfl) ?_
              refine lv_istore (lv' := [(6, .int ((I 75 1) + 1)), (5, .int (I 79 (((16 * x1) + (I 75 1)).toNatClampNeg))), (4, .int (I 78 (((16 * x1) + (I 75 1)).toNatClampNeg))), (3, .int ((16 * x1) + (I 75 1))), (0, .ref (ad 75)), (1, .int x1), (2, .int x2)]) hx hb dX5_go_186 hl (by decide) rfl (fun ls hl => ?_)
              refine lv_goto (tgt := 338) hx hb dX5_go_188 (by decide) ?_
              refine lv_aload_n hx hb dX5_go_338 rfl (lv_at hl 4 rfl) ?_
              refine lv_iload hx hb dX5_go_339 (lv_at hl 0 rfl) ?_
              refine va_put (D := D) (ci := 5) (v := .int ((I 75 1) + 1)) (ty := .int) (C := RX5) (T := TX5) (N := 26) hx hb hts inX5 tyX5 tyX5_ok nmX5 hown hK hP (mD hi) hS 75 (mq_X isO_75) rfl 22 (by decide) (hts _ k_297) (fun _ h9 => h9) rfl (by decide +kernel) rfl rfl (Nat.le_of_ble_eq_true rfl) dX5_go_341 (fun H locs hP _ hS => ?_)
              have hP := ms_X1 isO_75 hP
              have hP : va_P D vwCl (mw 97 ad (gs cs ad (m_X_go_10 I x1 x2))) H := hP
              refine lv_aload_n hx hb dX5_go_344 rfl (lv_at hl 4 rfl) ?_
              refine lv_dup hx hb dX5_go_345 rfl ?_
              refine va_get (D := D) (ci := 5) (v := .int ((m_X_go_10 I x1 x2) 75 4)) (C := RX5) (T := TX5) (N := 26) hx hb hts inX5 hown hK hP 75 (mq_X isO_75) rfl 25 (by decide) (hts _ k_300) (fun _ h9 => h9) rfl dX5_go_346 ?_
              refine lv_iconst (v := 1) hx hb dX5_go_349 (by decide) ?_
              refine lv_iadd hx hb dX5_go_350 ?_
              refine va_put (D := D) (ci := 5) (v := .int (((m_X_go_10 I x1 x2) 75 4) + 1)) (ty := .int) (C := RX5) (T := TX5) (N := 26) hx hb hts inX5 tyX5 tyX5_ok nmX5 hown hK hP (mD hi) hS 75 (mq_X isO_75) rfl 25 (by decide) (hts _ k_300) (fun _ h9 => h9) rfl (by decide +kernel) rfl rfl (Nat.le_of_ble_eq_true rfl) dX5_go_351 (fun H locs hP _ hS => ?_)
              have hP := ms_X4 isO_75 hP
              have hP : va_P D vwCl (mw 97 ad (gs cs ad (m_X_go_11 I x1 x2))) H := hP
              refine lv_iconst (v := 1) hx hb dX5_go_354 (by decide) ?_
              exact q_iret hx hb hr hlocks dX5_go_355 hP hS (by rw [f_X_go, if_pos c2, if_neg c4, if_neg c6, if_neg c9, if_pos c12, if_pos c15])
            · have c15 := c15
              refine lv_aload_n hx hb dX5_go_175 rfl (lv_at hl 4 rfl) ?_
              refine va_get (D := D) (ci := 5) (v := .int (I 75 1)) (C := RX5) (T := TX5) (N := 26) hx hb hts inX5 hown hK hP 75 (mq_X isO_75) rfl 22 (by decide) (hts _ k_297) (fun _ h9 => h9) rfl dX5_go_176 ?_
              refine lv_iconst (v := 2) hx hb dX5_go_179 (by decide) ?_
              refine lv_iadd hx hb dX5_go_180 ?_
              refine lv_goto (tgt := 186) hx hb dX5_go_181 (by decide) ?_
              refine lv_istore (lv' := [(6, .int ((I 75 1) + 2)), (5, .int (I 79 (((16 * x1) + (I 75 1)).toNatClampNeg))), (4, .int (I 78 (((16 * x1) + (I 75 1)).toNatClampNeg))), (3, .int ((16 * x1) + (I 75 1))), (0, .ref (ad 75)), (1, .int x1), (2, .int x2)]) hx hb dX5_go_186 hl (by decide) rfl (fun ls hl => ?_)
              refine lv_goto (tgt := 338) hx hb dX5_go_188 (by decide) ?_
              refine lv_aload_n hx hb dX5_go_338 rfl (lv_at hl 4 rfl) ?_
              refine lv_iload hx hb dX5_go_339 (lv_at hl 0 rfl) ?_
              refine va_put (D := D) (ci := 5) (v := .int ((I 75 1) + 2)) (ty := .int) (C := RX5) (T := TX5) (N := 26) hx hb hts inX5 tyX5 tyX5_ok nmX5 hown hK hP (mD hi) hS 75 (mq_X isO_75) rfl 22 (by decide) (hts _ k_297) (fun _ h9 => h9) rfl (by decide +kernel) rfl rfl (Nat.le_of_ble_eq_true rfl) dX5_go_341 (fun H locs hP _ hS => ?_)
              have hP := ms_X1 isO_75 hP
              have hP : va_P D vwCl (mw 97 ad (gs cs ad (m_X_go_12 I x1 x2))) H := hP
              refine lv_aload_n hx hb dX5_go_344 rfl (lv_at hl 4 rfl) ?_
              refine lv_dup hx hb dX5_go_345 rfl ?_
              refine va_get (D := D) (ci := 5) (v := .int ((m_X_go_12 I x1 x2) 75 4)) (C := RX5) (T := TX5) (N := 26) hx hb hts inX5 hown hK hP 75 (mq_X isO_75) rfl 25 (by decide) (hts _ k_300) (fun _ h9 => h9) rfl dX5_go_346 ?_
              refine lv_iconst (v := 1) hx hb dX5_go_349 (by decide) ?_
              refine lv_iadd hx hb dX5_go_350 ?_
              refine va_put (D := D) (ci := 5) (v := .int (((m_X_go_12 I x1 x2) 75 4) + 1)) (ty := .int) (C := RX5) (T := TX5) (N := 26) hx hb hts inX5 tyX5 tyX5_ok nmX5 hown hK hP (mD hi) hS 75 (mq_X isO_75) rfl 25 (by decide) (hts _ k_300) (fun _ h9 => h9) rfl (by decide +kernel) rfl rfl (Nat.le_of_ble_eq_true rfl) dX5_go_351 (fun H locs hP _ hS => ?_)
              have hP := ms_X4 isO_75 hP
              have hP : va_P D vwCl (mw 97 ad (gs cs ad (m_X_go_13 I x1 x2))) H := hP
              refine lv_iconst (v := 1) hx hb dX5_go_354 (by decide) ?_
              exact q_iret hx hb hr hlocks dX5_go_355 hP hS (by rw [f_X_go, if_pos c2, if_neg c4, if_neg c6, if_neg c9, if_pos c12, if_neg c15])
          · have ok := ok.2 c12
            by_cases c16 : (I 77 (((16 * x1) + (I 75 1)).toNatClampNeg)) = 4
            · have ok := ok.1 c16
              refine lv_tableIn (tgt := 191) (off := 136) hx hb dX5_go_55 (by rw [c16]; decide) (by rw [c16]; decide) (by rw [c16]; rfl) (by decide) ?_
              refine lv_iload hx hb dX5_go_191 (lv_at hl 2 rfl) ?_
              refine lv_istore (lv' := [(6, .int (I 78 (((16 * x1) + (I 75 1)).toNatClampNeg))), (5, .int (I 79 (((16 * x1) + (I 75 1)).toNatClampNeg))), (4, .int (I 78 (((16 * x1) + (I 75 1)).toNatClampNeg))), (3, .int ((16 * x1) + (I 75 1))), (0, .ref (ad 75)), (1, .int x1), (2, .int x2)]) hx hb dX5_go_193 hl (by decide) rfl (fun ls hl => ?_)
              refine lv_goto (tgt := 338) hx hb dX5_go_195 (by decide) ?_
              refine lv_aload_n hx hb dX5_go_338 rfl (lv_at hl 4 rfl) ?_
              refine lv_iload hx hb dX5_go_339 (lv_at hl 0 rfl) ?_
              refine va_put (D := D) (ci := 5) (v := .int (I 78 (((16 * x1) + (I 75 1)).toNatClampNeg))) (ty := .int) (C := RX5) (T := TX5) (N := 26) hx hb hts inX5 tyX5 tyX5_ok nmX5 hown hK hP (mD hi) hS 75 (mq_X isO_75) rfl 22 (by decide) (hts _ k_297) (fun _ h9 => h9) rfl (by decide +kernel) rfl rfl (Nat.le_of_ble_eq_true rfl) dX5_go_341 (fun H locs hP _ hS => ?_)
              have hP := ms_X1 isO_75 hP
              have hP : va_P D vwCl (mw 97 ad (gs cs ad (m_X_go_14 I x1 x2))) H := hP
              refine lv_aload_n hx hb dX5_go_344 rfl (lv_at hl 4 rfl) ?_
              refine lv_dup hx hb dX5_go_345 rfl ?_
              refine va_get (D := D) (ci := 5) (v := .int ((m_X_go_14 I x1 x2) 75 4)) (C := RX5) (T := TX5) (N := 26) hx hb hts inX5 hown hK hP 75 (mq_X isO_75) rfl 25 (by decide) (hts _ k_300) (fun _ h9 => h9) rfl dX5_go_346 ?_
              refine lv_iconst (v := 1) hx hb dX5_go_349 (by decide) ?_
              refine lv_iadd hx hb dX5_go_350 ?_
              refine va_put (D := D) (ci := 5) (v := .int (((m_X_go_14 I x1 x2) 75 4) + 1)) (ty := .int) (C := RX5) (T := TX5) (N := 26) hx hb hts inX5 tyX5 tyX5_ok nmX5 hown hK hP (mD hi) hS 75 (mq_X isO_75) rfl 25 (by decide) (hts _ k_300) (fun _ h9 => h9) rfl (by decide +kernel) rfl rfl (Nat.le_of_ble_eq_true rfl) dX5_go_351 (fun H locs hP _ hS => ?_)
              have hP := ms_X4 isO_75 hP
              have hP : va_P D vwCl (mw 97 ad (gs cs ad (m_X_go_15 I x1 x2))) H := hP
              refine lv_iconst (v := 1) hx hb dX5_go_354 (by decide) ?_
              exact q_iret hx hb hr hlocks dX5_go_355 hP hS (by rw [f_X_go, if_pos c2, if_neg c4, if_neg c6, if_neg c9, if_neg c12, if_pos c16])
            · have ok := ok.2 c16
              by_cases c17 : (I 77 (((16 * x1) + (I 75 1)).toNatClampNeg)) = 5
              · have ok := ok.1 c17
                refine lv_tableIn (tgt := 198) (off := 143) hx hb dX5_go_55 (by rw [c17]; decide) (by rw [c17]; decide) (by rw [c17]; rfl) (by decide) ?_
                refine lv_iload_n hx hb dX5_go_198 rfl (lv_at hl 6 rfl) ?_
                refine lv_if_ne (tgt := 221) hx hb dX5_go_199 (by decide) (fun c18 => ?_) (fun c18 => ?_)
                · have ok := ok.2 c18
                  refine lv_aload_n hx hb dX5_go_221 rfl (lv_at hl 4 rfl) ?_
                  refine va_get (D := D) (ci := 5) (v := .ref (ad 96)) (C := RX5) (T := TX5) (N := 26) hx hb hts inX5 hown hK hP 75 (mq_X isO_75) rfl 21 (by decide) (hts _ k_296) (fun _ h9 => h9) rfl dX5_go_222 ?_
                  refine lv_iload hx hb dX5_go_225 (lv_at hl 2 rfl) ?_
                  refine lv_dup2_11 hx hb dX5_go_227 rfl rfl ?_
                  have g19 := ok
                  refine va_iald hx hb hK hP 96 0 (mq_A iA_96) rfl g19 dX5_go_228 ?_
                  refine lv_iconst (v := 1) hx hb dX5_go_229 (by decide) ?_
                  refine lv_iadd hx hb dX5_go_230 ?_
                  refine va_iast hx hb hK hP (mD hi) hS 96 0 (mq_A iA_96) rfl g19 dX5_go_231 (fun H locs hP _ hS => ?_)
                  have hP := ms_A iA_96 hP
                  have hP : va_P D vwCl (mw 97 ad (gs cs ad (m_X_go_16 I x1 x2))) H := hP
                  refine lv_goto (tgt := 338) hx hb dX5_go_232 (by decide) ?_
                  refine lv_aload_n hx hb dX5_go_338 rfl (lv_at hl 4 rfl) ?_
                  refine lv_iload hx hb dX5_go_339 (lv_at hl 0 rfl) ?_
                  refine va_put (D := D) (ci := 5) (v := .int ((I 75 1) + 1)) (ty := .int) (C := RX5) (T := TX5) (N := 26) hx hb hts inX5 tyX5 tyX5_ok nmX5 hown hK hP (mD hi) hS 75 (mq_X isO_75) rfl 22 (by decide) (hts _ k_297) (fun _ h9 => h9) rfl (by decide +kernel) rfl rfl (Nat.le_of_ble_eq_true rfl) dX5_go_341 (fun H locs hP _ hS => ?_)
                  have hP := ms_X1 isO_75 hP
                  have hP : va_P D vwCl (mw 97 ad (gs cs ad (m_X_go_17 I x1 x2))) H := hP
                  refine lv_aload_n hx hb dX5_go_344 rfl (lv_at hl 4 rfl) ?_
                  refine lv_dup hx hb dX5_go_345 rfl ?_
                  refine va_get (D := D) (ci := 5) (v := .int ((m_X_go_17 I x1 x2) 75 4)) (C := RX5) (T := TX5) (N := 26) hx hb hts inX5 hown hK hP 75 (mq_X isO_75) rfl 25 (by decide) (hts _ k_300) (fun _ h9 => h9) rfl dX5_go_346 ?_
                  refine lv_iconst (v := 1) hx hb dX5_go_349 (by decide) ?_
                  refine lv_iadd hx hb dX5_go_350 ?_
                  refine va_put (D := D) (ci := 5) (v := .int (((m_X_go_17 I x1 x2) 75 4) + 1)) (ty := .int) (C := RX5) (T := TX5) (N := 26) hx hb hts inX5 tyX5 tyX5_ok nmX5 hown hK hP (mD hi) hS 75 (mq_X isO_75) rfl 25 (by decide) (hts _ k_300) (fun _ h9 => h9) rfl (by decide +kernel) rfl rfl (Nat.le_of_ble_eq_true rfl) dX5_go_351 (fun H locs hP _ hS => ?_)
                  have hP := ms_X4 isO_75 hP
                  have hP : va_P D vwCl (mw 97 ad (gs cs ad (m_X_go_18 I x1 x2))) H := hP
                  refine lv_iconst (v := 1) hx hb dX5_go_354 (by decide) ?_
                  exact q_iret hx hb hr hlocks dX5_go_355 hP hS (by rw [f_X_go, if_pos c2, if_neg c4, if_neg c6, if_neg c9, if_neg c12, if_neg c16, if_pos c17, if_neg c18])
                · have ok := ok.1 c18
                  refine lv_aload_n hx hb dX5_go_202 rfl (lv_at hl 4 rfl) ?_
                  refine lv_iload_n hx hb dX5_go_203 rfl (lv_at hl 5 rfl) ?_
                  refine lv_iload hx hb dX5_go_204 (lv_at hl 2 rfl) ?_
                  refine lv_aload_n hx hb dX5_go_206 rfl (lv_at hl 4 rfl) ?_
                  refine va_get (D := D) (ci := 5) (v := .ref (ad 95)) (C := RX5) (T := TX5) (N := 26) hx hb hts inX5 hown hK hP 75 (mq_X isO_75) rfl 20 (by decide) (hts _ k_295) (fun _ h9 => h9) rfl dX5_go_207 ?_
                  refine lv_iload hx hb dX5_go_210 (lv_at hl 1 rfl) ?_
                  have g20 := ok.1
                  have ok := ok.2
                  refine va_iald hx hb hK hP 95 0 (mq_A iA_95) rfl g20 dX5_go_212 ?_
                  have g21 := ok.1
                  have ok := ok.2
                  refine q_calli (va_runV (As := [.int x1, .int (I 78 (((16 * x1) + (I 75 1)).toNatClampNeg)), .int (I 95 ((I 79 (((16 * x1) + (I 75 1)).toNatClampNeg)).toNatClampNeg))]) (rest := []) ⟨hx, hb, hml, hown, hts⟩ (c_X_sends l D cs ad hi I x1 (I 78 (((16 * x1) + (I 75 1)).toNatClampNeg)) (I 95 ((I 79 (((16 * x1) + (I 75 1)).toNatClampNeg)).toNatClampNeg)) g21) (cwV 3 hts (gV k_368 k_369 k_441 k_6 k_370) rfl rfl rfl (by decide +kernel) ⟨Nat.le_of_ble_eq_true rfl, Nat.le_of_ble_eq_true rfl⟩) (q_preV hK hP (va_recv hK hP (ci := 5) (q0 := 75) rfl (mq_X isO_75))) rfl rfl hl.1 rfl (lv_room (Nat.le_of_ble_eq_true rfl)) dX5_go_213 ⟨Nat.zero_le _, Nat.zero_le _⟩) hS (fun _ h => h) (fun H locs hP hS => ?_)
                  refine lv_if_ne (tgt := 221) hx hb dX5_go_216 (by decide) (fun c22 => ?_) (fun c22 => ?_)
                  · have ok := ok.2 c22
                    refine lv_aload_n hx hb dX5_go_221 rfl (lv_at hl 4 rfl) ?_
                    refine va_get (D := D) (ci := 5) (v := .ref (ad 96)) (C := RX5) (T := TX5) (N := 26) hx hb hts inX5 hown hK hP 75 (mq_X isO_75) rfl 21 (by decide) (hts _ k_296) (fun _ h9 => h9) rfl dX5_go_222 ?_
                    refine lv_iload hx hb dX5_go_225 (lv_at hl 2 rfl) ?_
                    refine lv_dup2_11 hx hb dX5_go_227 rfl rfl ?_
                    have g23 := ok
                    refine va_iald hx hb hK hP 96 0 (mq_A iA_96) rfl g23 dX5_go_228 ?_
                    refine lv_iconst (v := 1) hx hb dX5_go_229 (by decide) ?_
                    refine lv_iadd hx hb dX5_go_230 ?_
                    refine va_iast hx hb hK hP (mD hi) hS 96 0 (mq_A iA_96) rfl g23 dX5_go_231 (fun H locs hP _ hS => ?_)
                    have hP := ms_A iA_96 hP
                    have hP : va_P D vwCl (mw 97 ad (gs cs ad (m_X_go_19 I x1 x2))) H := hP
                    refine lv_goto (tgt := 338) hx hb dX5_go_232 (by decide) ?_
                    refine lv_aload_n hx hb dX5_go_338 rfl (lv_at hl 4 rfl) ?_
                    refine lv_iload hx hb dX5_go_339 (lv_at hl 0 rfl) ?_
                    refine va_put (D := D) (ci := 5) (v := .int ((I 75 1) + 1)) (ty := .int) (C := RX5) (T := TX5) (N := 26) hx hb hts inX5 tyX5 tyX5_ok nmX5 hown hK hP (mD hi) hS 75 (mq_X isO_75) rfl 22 (by decide) (hts _ k_297) (fun _ h9 => h9) rfl (by decide +kernel) rfl rfl (Nat.le_of_ble_eq_true rfl) dX5_go_341 (fun H locs hP _ hS => ?_)
                    have hP := ms_X1 isO_75 hP
                    have hP : va_P D vwCl (mw 97 ad (gs cs ad (m_X_go_20 I x1 x2))) H := hP
                    refine lv_aload_n hx hb dX5_go_344 rfl (lv_at hl 4 rfl) ?_
                    refine lv_dup hx hb dX5_go_345 rfl ?_
                    refine va_get (D := D) (ci := 5) (v := .int ((m_X_go_20 I x1 x2) 75 4)) (C := RX5) (T := TX5) (N := 26) hx hb hts inX5 hown hK hP 75 (mq_X isO_75) rfl 25 (by decide) (hts _ k_300) (fun _ h9 => h9) rfl dX5_go_346 ?_
                    refine lv_iconst (v := 1) hx hb dX5_go_349 (by decide) ?_
                    refine lv_iadd hx hb dX5_go_350 ?_
                    refine va_put (D := D) (ci := 5) (v := .int (((m_X_go_20 I x1 x2) 75 4) + 1)) (ty := .int) (C := RX5) (T := TX5) (N := 26) hx hb hts inX5 tyX5 tyX5_ok nmX5 hown hK hP (mD hi) hS 75 (mq_X isO_75) rfl 25 (by decide) (hts _ k_300) (fun _ h9 => h9) rfl (by decide +kernel) rfl rfl (Nat.le_of_ble_eq_true rfl) dX5_go_351 (fun H locs hP _ hS => ?_)
                    have hP := ms_X4 isO_75 hP
                    have hP : va_P D vwCl (mw 97 ad (gs cs ad (m_X_go_21 I x1 x2))) H := hP
                    refine lv_iconst (v := 1) hx hb dX5_go_354 (by decide) ?_
                    exact q_iret hx hb hr hlocks dX5_go_355 hP hS (by rw [f_X_go, if_pos c2, if_neg c4, if_neg c6, if_neg c9, if_neg c12, if_neg c16, if_pos c17, if_pos c18, if_neg c22])
                  · have ok := ok.1 c22
                    refine lv_iconst (v := 0) hx hb dX5_go_219 (by decide) ?_
                    exact q_iret hx hb hr hlocks dX5_go_220 hP hS (by rw [f_X_go, if_pos c2, if_neg c4, if_neg c6, if_neg c9, if_neg c12, if_neg c16, if_pos c17, if_pos c18, if_pos c22])
              · have ok := ok.2 c17
                by_cases c24 : (I 77 (((16 * x1) + (I 75 1)).toNatClampNeg)) = 6
                · have ok := ok.1 c24
                  refine lv_tableIn (tgt := 235) (off := 180) hx hb dX5_go_55 (by rw [c24]; decide) (by rw [c24]; decide) (by rw [c24]; rfl) (by decide) ?_
                  refine lv_aload_n hx hb dX5_go_235 rfl (lv_at hl 4 rfl) ?_
                  refine va_get (D := D) (ci := 5) (v := .int (I 75 2)) (C := RX5) (T := TX5) (N := 26) hx hb hts inX5 hown hK hP 75 (mq_X isO_75) rfl 23 (by decide) (hts _ k_298) (fun _ h9 => h9) rfl dX5_go_236 ?_
                  refine lv_aload_n hx hb dX5_go_239 rfl (lv_at hl 4 rfl) ?_
                  refine va_get (D := D) (ci := 5) (v := .ref (ad 86)) (C := RX5) (T := TX5) (N := 26) hx hb hts inX5 hown hK hP 75 (mq_X isO_75) rfl 10 (by decide) (hts _ k_285) (fun _ h9 => h9) rfl dX5_go_240 ?_
                  refine lv_iload_n hx hb dX5_go_243 rfl (lv_at hl 5 rfl) ?_
                  refine va_iald hx hb hK hP 86 0 (mq_A iA_86) rfl g1 dX5_go_244 ?_
                  refine lv_icmp_ne (tgt := 250) hx hb dX5_go_245 (by decide) (fun c25 => ?_) (fun c25 => ?_)
                  · have ok := ok.2 c25
                    refine lv_aload_n hx hb dX5_go_250 rfl (lv_at hl 4 rfl) ?_
                    refine va_get (D := D) (ci := 5) (v := .ref (ad 95)) (C := RX5) (T := TX5) (N := 26) hx hb hts inX5 hown hK hP 75 (mq_X isO_75) rfl 20 (by decide) (hts _ k_295) (fun _ h9 => h9) rfl dX5_go_251 ?_
                    refine lv_iload hx hb dX5_go_254 (lv_at hl 1 rfl) ?_
                    refine lv_aload_n hx hb dX5_go_256 rfl (lv_at hl 4 rfl) ?_
                    refine va_get (D := D) (ci := 5) (v := .ref (ad 88)) (C := RX5) (T := TX5) (N := 26) hx hb hts inX5 hown hK hP 75 (mq_X isO_75) rfl 12 (by decide) (hts _ k_287) (fun _ h9 => h9) rfl dX5_go_257 ?_
                    refine lv_sipush (v := 512) hx hb dX5_go_260 (by decide) ?_
                    refine lv_iload_n hx hb dX5_go_263 rfl (lv_at hl 5 rfl) ?_
                    refine lv_imul hx hb dX5_go_264 ?_
                    refine lv_aload_n hx hb dX5_go_265 rfl (lv_at hl 4 rfl) ?_
                    refine va_get (D := D) (ci := 5) (v := .int (I 75 2)) (C := RX5) (T := TX5) (N := 26) hx hb hts inX5 hown hK hP 75 (mq_X isO_75) rfl 23 (by decide) (hts _ k_298) (fun _ h9 => h9) rfl dX5_go_266 ?_
                    refine lv_iadd hx hb dX5_go_269 ?_
                    have g26 := ok.1
                    have ok := ok.2
                    refine va_iald hx hb hK hP 88 0 (mq_A iA_88) rfl g26 dX5_go_270 ?_
                    have g27 := ok.1
                    have ok := ok.2
                    refine va_iast hx hb hK hP (mD hi) hS 95 0 (mq_A iA_95) rfl g27 dX5_go_271 (fun H locs hP _ hS => ?_)
                    have hP := ms_A iA_95 hP
                    have hP : va_P D vwCl (mw 97 ad (gs cs ad (m_X_go_22 I x1 x2))) H := hP
                    refine lv_aload_n hx hb dX5_go_272 rfl (lv_at hl 4 rfl) ?_
                    refine va_get (D := D) (ci := 5) (v := .ref (ad 95)) (C := RX5) (T := TX5) (N := 26) hx hb hts inX5 hown hK hP 75 (mq_X isO_75) rfl 20 (by decide) (hts _ k_295) (fun _ h9 => h9) rfl dX5_go_273 ?_
                    refine lv_iload hx hb dX5_go_276 (lv_at hl 2 rfl) ?_
                    refine lv_aload_n hx hb dX5_go_278 rfl (lv_at hl 4 rfl) ?_
                    refine va_get (D := D) (ci := 5) (v := .ref (ad 87)) (C := RX5) (T := TX5) (N := 26) hx hb hts inX5 hown hK hP 75 (mq_X isO_75) rfl 11 (by decide) (hts _ k_286) (fun _ h9 => h9) rfl dX5_go_279 ?_
                    refine lv_sipush (v := 512) hx hb dX5_go_282 (by decide) ?_
                    refine lv_iload_n hx hb dX5_go_285 rfl (lv_at hl 5 rfl) ?_
                    refine lv_imul hx hb dX5_go_286 ?_
                    refine lv_aload_n hx hb dX5_go_287 rfl (lv_at hl 4 rfl) ?_
                    refine va_get (D := D) (ci := 5) (v := .int ((m_X_go_22 I x1 x2) 75 2)) (C := RX5) (T := TX5) (N := 26) hx hb hts inX5 hown hK hP 75 (mq_X isO_75) rfl 23 (by decide) (hts _ k_298) (fun _ h9 => h9) rfl dX5_go_288 ?_
                    refine lv_iadd hx hb dX5_go_291 ?_
                    have g28 := ok.1
                    have ok := ok.2
                    refine va_iald hx hb hK hP 87 0 (mq_A iA_87) rfl g28 dX5_go_292 ?_
                    have g29 := ok
                    refine va_iast hx hb hK hP (mD hi) hS 95 0 (mq_A iA_95) rfl g29 dX5_go_293 (fun H locs hP _ hS => ?_)
                    have hP := ms_A iA_95 hP
                    have hP : va_P D vwCl (mw 97 ad (gs cs ad (m_X_go_23 I x1 x2))) H := hP
                    refine lv_aload_n hx hb dX5_go_294 rfl (lv_at hl 4 rfl) ?_
                    refine lv_dup hx hb dX5_go_295 rfl ?_
                    refine va_get (D := D) (ci := 5) (v := .int ((m_X_go_23 I x1 x2) 75 2)) (C := RX5) (T := TX5) (N := 26) hx hb hts inX5 hown hK hP 75 (mq_X isO_75) rfl 23 (by decide) (hts _ k_298) (fun _ h9 => h9) rfl dX5_go_296 ?_
                    refine lv_iconst (v := 1) hx hb dX5_go_299 (by decide) ?_
                    refine lv_iadd hx hb dX5_go_300 ?_
                    refine va_put (D := D) (ci := 5) (v := .int (((m_X_go_23 I x1 x2) 75 2) + 1)) (ty := .int) (C := RX5) (T := TX5) (N := 26) hx hb hts inX5 tyX5 tyX5_ok nmX5 hown hK hP (mD hi) hS 75 (mq_X isO_75) rfl 23 (by decide) (hts _ k_298) (fun _ h9 => h9) rfl (by decide +kernel) rfl rfl (Nat.le_of_ble_eq_true rfl) dX5_go_301 (fun H locs hP _ hS => ?_)
                    have hP := ms_X2 isO_75 hP
                    have hP : va_P D vwCl (mw 97 ad (gs cs ad (m_X_go_24 I x1 x2))) H := hP
                    refine lv_goto (tgt := 338) hx hb dX5_go_304 (by decide) ?_
                    refine lv_aload_n hx hb dX5_go_338 rfl (lv_at hl 4 rfl) ?_
                    refine lv_iload hx hb dX5_go_339 (lv_at hl 0 rfl) ?_
                    refine va_put (D := D) (ci := 5) (v := .int ((I 75 1) + 1)) (ty := .int) (C := RX5) (T := TX5) (N := 26) hx hb hts inX5 tyX5 tyX5_ok nmX5 hown hK hP (mD hi) hS 75 (mq_X isO_75) rfl 22 (by decide) (hts _ k_297) (fun _ h9 => h9) rfl (by decide +kernel) rfl rfl (Nat.le_of_ble_eq_true rfl) dX5_go_341 (fun H locs hP _ hS => ?_)
                    have hP := ms_X1 isO_75 hP
                    have hP : va_P D vwCl (mw 97 ad (gs cs ad (m_X_go_25 I x1 x2))) H := hP
                    refine lv_aload_n hx hb dX5_go_344 rfl (lv_at hl 4 rfl) ?_
                    refine lv_dup hx hb dX5_go_345 rfl ?_
                    refine va_get (D := D) (ci := 5) (v := .int ((m_X_go_25 I x1 x2) 75 4)) (C := RX5) (T := TX5) (N := 26) hx hb hts inX5 hown hK hP 75 (mq_X isO_75) rfl 25 (by decide) (hts _ k_300) (fun _ h9 => h9) rfl dX5_go_346 ?_
                    refine lv_iconst (v := 1) hx hb dX5_go_349 (by decide) ?_
                    refine lv_iadd hx hb dX5_go_350 ?_
                    refine va_put (D := D) (ci := 5) (v := .int (((m_X_go_25 I x1 x2) 75 4) + 1)) (ty := .int) (C := RX5) (T := TX5) (N := 26) hx hb hts inX5 tyX5 tyX5_ok nmX5 hown hK hP (mD hi) hS 75 (mq_X isO_75) rfl 25 (by decide) (hts _ k_300) (fun _ h9 => h9) rfl (by decide +kernel) rfl rfl (Nat.le_of_ble_eq_true rfl) dX5_go_351 (fun H locs hP _ hS => ?_)
                    have hP := ms_X4 isO_75 hP
                    have hP : va_P D vwCl (mw 97 ad (gs cs ad (m_X_go_26 I x1 x2))) H := hP
                    refine lv_iconst (v := 1) hx hb dX5_go_354 (by decide) ?_
                    exact q_iret hx hb hr hlocks dX5_go_355 hP hS (by rw [f_X_go, if_pos c2, if_neg c4, if_neg c6, if_neg c9, if_neg c12, if_neg c16, if_neg c17, if_pos c24, if_neg c25])
                  · have ok := ok.1 c25
                    refine lv_iconst (v := 0) hx hb dX5_go_248 (by decide) ?_
                    exact q_iret hx hb hr hlocks dX5_go_249 hP hS (by rw [f_X_go, if_pos c2, if_neg c4, if_neg c6, if_neg c9, if_neg c12, if_neg c16, if_neg c17, if_pos c24, if_pos c25])
                · have ok := ok.2 c24
                  refine lv_tableOut (tgt := 307) hx hb dX5_go_55 (tb_out0_6 c4 c6 c9 c12 c16 c17 c24) (by decide) ?_
                  refine lv_iload_n hx hb dX5_go_307 rfl (lv_at hl 6 rfl) ?_
                  refine lv_if_ne (tgt := 328) hx hb dX5_go_308 (by decide) (fun c30 => ?_) (fun c30 => ?_)
                  · have ok := ok.2 c30
                    refine lv_aload_n hx hb dX5_go_328 rfl (lv_at hl 4 rfl) ?_
                    refine lv_dup hx hb dX5_go_329 rfl ?_
                    refine va_get (D := D) (ci := 5) (v := .int (I 75 3)) (C := RX5) (T := TX5) (N := 26) hx hb hts inX5 hown hK hP 75 (mq_X isO_75) rfl 24 (by decide) (hts _ k_299) (fun _ h9 => h9) rfl dX5_go_330 ?_
                    refine lv_iconst (v := 1) hx hb dX5_go_333 (by decide) ?_
                    refine lv_iadd hx hb dX5_go_334 ?_
                    refine va_put (D := D) (ci := 5) (v := .int ((I 75 3) + 1)) (ty := .int) (C := RX5) (T := TX5) (N := 26) hx hb hts inX5 tyX5 tyX5_ok nmX5 hown hK hP (mD hi) hS 75 (mq_X isO_75) rfl 24 (by decide) (hts _ k_299) (fun _ h9 => h9) rfl (by decide +kernel) rfl rfl (Nat.le_of_ble_eq_true rfl) dX5_go_335 (fun H locs hP _ hS => ?_)
                    have hP := ms_X3 isO_75 hP
                    have hP : va_P D vwCl (mw 97 ad (gs cs ad (m_X_go_27 I x1 x2))) H := hP
                    refine lv_aload_n hx hb dX5_go_338 rfl (lv_at hl 4 rfl) ?_
                    refine lv_iload hx hb dX5_go_339 (lv_at hl 0 rfl) ?_
                    refine va_put (D := D) (ci := 5) (v := .int ((I 75 1) + 1)) (ty := .int) (C := RX5) (T := TX5) (N := 26) hx hb hts inX5 tyX5 tyX5_ok nmX5 hown hK hP (mD hi) hS 75 (mq_X isO_75) rfl 22 (by decide) (hts _ k_297) (fun _ h9 => h9) rfl (by decide +kernel) rfl rfl (Nat.le_of_ble_eq_true rfl) dX5_go_341 (fun H locs hP _ hS => ?_)
                    have hP := ms_X1 isO_75 hP
                    have hP : va_P D vwCl (mw 97 ad (gs cs ad (m_X_go_28 I x1 x2))) H := hP
                    refine lv_aload_n hx hb dX5_go_344 rfl (lv_at hl 4 rfl) ?_
                    refine lv_dup hx hb dX5_go_345 rfl ?_
                    refine va_get (D := D) (ci := 5) (v := .int ((m_X_go_28 I x1 x2) 75 4)) (C := RX5) (T := TX5) (N := 26) hx hb hts inX5 hown hK hP 75 (mq_X isO_75) rfl 25 (by decide) (hts _ k_300) (fun _ h9 => h9) rfl dX5_go_346 ?_
                    refine lv_iconst (v := 1) hx hb dX5_go_349 (by decide) ?_
                    refine lv_iadd hx hb dX5_go_350 ?_
                    refine va_put (D := D) (ci := 5) (v := .int (((m_X_go_28 I x1 x2) 75 4) + 1)) (ty := .int) (C := RX5) (T := TX5) (N := 26) hx hb hts inX5 tyX5 tyX5_ok nmX5 hown hK hP (mD hi) hS 75 (mq_X isO_75) rfl 25 (by decide) (hts _ k_300) (fun _ h9 => h9) rfl (by decide +kernel) rfl rfl (Nat.le_of_ble_eq_true rfl) dX5_go_351 (fun H locs hP _ hS => ?_)
                    have hP := ms_X4 isO_75 hP
                    have hP : va_P D vwCl (mw 97 ad (gs cs ad (m_X_go_29 I x1 x2))) H := hP
                    refine lv_iconst (v := 1) hx hb dX5_go_354 (by decide) ?_
                    exact q_iret hx hb hr hlocks dX5_go_355 hP hS (by rw [f_X_go, if_pos c2, if_neg c4, if_neg c6, if_neg c9, if_neg c12, if_neg c16, if_neg c17, if_neg c24, if_neg c30])
                  · have ok := ok.1 c30
                    refine lv_aload_n hx hb dX5_go_311 rfl (lv_at hl 4 rfl) ?_
                    refine lv_iload_n hx hb dX5_go_312 rfl (lv_at hl 5 rfl) ?_
                    refine lv_aload_n hx hb dX5_go_313 rfl (lv_at hl 4 rfl) ?_
                    refine va_get (D := D) (ci := 5) (v := .ref (ad 95)) (C := RX5) (T := TX5) (N := 26) hx hb hts inX5 hown hK hP 75 (mq_X isO_75) rfl 20 (by decide) (hts _ k_295) (fun _ h9 => h9) rfl dX5_go_314 ?_
                    refine lv_iload hx hb dX5_go_317 (lv_at hl 2 rfl) ?_
                    have g31 := ok.1
                    have ok := ok.2
                    refine va_iald hx hb hK hP 95 0 (mq_A iA_95) rfl g31 dX5_go_319 ?_
                    have g32 := ok
                    refine q_calli (va_runV (As := [.int x1, .int (I 95 ((I 78 (((16 * x1) + (I 75 1)).toNatClampNeg)).toNatClampNeg))]) (rest := []) ⟨hx, hb, hml, hown, hts⟩ (c_X_puts l D cs ad hi I x1 (I 95 ((I 78 (((16 * x1) + (I 75 1)).toNatClampNeg)).toNatClampNeg)) g32) (cwV 2 hts (gV k_371 k_372 k_442 k_6 k_373) rfl rfl rfl (by decide +kernel) ⟨Nat.le_of_ble_eq_true rfl, Nat.le_of_ble_eq_true rfl⟩) (q_preV hK hP (va_recv hK hP (ci := 5) (q0 := 75) rfl (mq_X isO_75))) rfl rfl hl.1 rfl (lv_room (Nat.le_of_ble_eq_true rfl)) dX5_go_320 ⟨Nat.zero_le _, Nat.zero_le _⟩) hS (fun _ h => h) (fun H locs hP hS => ?_)
                    refine lv_if_ne (tgt := 328) hx hb dX5_go_323 (by decide) (fun c33 => ?_) (fun c33 => ?_)
                    · have c33 := c33
                      refine lv_aload_n hx hb dX5_go_328 rfl (lv_at hl 4 rfl) ?_
                      refine lv_dup hx hb dX5_go_329 rfl ?_
                      refine va_get (D := D) (ci := 5) (v := .int (((f_X_puts I x1 (I 95 ((I 78 (((16 * x1) + (I 75 1)).toNatClampNeg)).toNatClampNeg))).2) 75 3)) (C := RX5) (T := TX5) (N := 26) hx hb hts inX5 hown hK hP 75 (mq_X isO_75) rfl 24 (by decide) (hts _ k_299) (fun _ h9 => h9) rfl dX5_go_330 ?_
                      refine lv_iconst (v := 1) hx hb dX5_go_333 (by decide) ?_
                      refine lv_iadd hx hb dX5_go_334 ?_
                      refine va_put (D := D) (ci := 5) (v := .int ((((f_X_puts I x1 (I 95 ((I 78 (((16 * x1) + (I 75 1)).toNatClampNeg)).toNatClampNeg))).2) 75 3) + 1)) (ty := .int) (C := RX5) (T := TX5) (N := 26) hx hb hts inX5 tyX5 tyX5_ok nmX5 hown hK hP (mD hi) hS 75 (mq_X isO_75) rfl 24 (by decide) (hts _ k_299) (fun _ h9 => h9) rfl (by decide +kernel) rfl rfl (Nat.le_of_ble_eq_true rfl) dX5_go_335 (fun H locs hP _ hS => ?_)
                      have hP := ms_X3 isO_75 hP
                      have hP : va_P D vwCl (mw 97 ad (gs cs ad (m_X_go_30 I x1 x2))) H := hP
                      refine lv_aload_n hx hb dX5_go_338 rfl (lv_at hl 4 rfl) ?_
                      refine lv_iload hx hb dX5_go_339 (lv_at hl 0 rfl) ?_
                      refine va_put (D := D) (ci := 5) (v := .int ((I 75 1) + 1)) (ty := .int) (C := RX5) (T := TX5) (N := 26) hx hb hts inX5 tyX5 tyX5_ok nmX5 hown hK hP (mD hi) hS 75 (mq_X isO_75) rfl 22 (by decide) (hts _ k_297) (fun _ h9 => h9) rfl (by decide +kernel) rfl rfl (Nat.le_of_ble_eq_true rfl) dX5_go_341 (fun H locs hP _ hS => ?_)
                      have hP := ms_X1 isO_75 hP
                      have hP : va_P D vwCl (mw 97 ad (gs cs ad (m_X_go_31 I x1 x2))) H := hP
                      refine lv_aload_n hx hb dX5_go_344 rfl (lv_at hl 4 rfl) ?_
                      refine lv_dup hx hb dX5_go_345 rfl ?_
                      refine va_get (D := D) (ci := 5) (v := .int ((m_X_go_31 I x1 x2) 75 4)) (C := RX5) (T := TX5) (N := 26) hx hb hts inX5 hown hK hP 75 (mq_X isO_75) rfl 25 (by decide) (hts _ k_300) (fun _ h9 => h9) rfl dX5_go_346 ?_
                      refine lv_iconst (v := 1) hx hb dX5_go_349 (by decide) ?_
                      refine lv_iadd hx hb dX5_go_350 ?_
                      refine va_put (D := D) (ci := 5) (v := .int (((m_X_go_31 I x1 x2) 75 4) + 1)) (ty := .int) (C := RX5) (T := TX5) (N := 26) hx hb hts inX5 tyX5 tyX5_ok nmX5 hown hK hP (mD hi) hS 75 (mq_X isO_75) rfl 25 (by decide) (hts _ k_300) (fun _ h9 => h9) rfl (by decide +kernel) rfl rfl (Nat.le_of_ble_eq_true rfl) dX5_go_351 (fun H locs hP _ hS => ?_)
                      have hP := ms_X4 isO_75 hP
                      have hP : va_P D vwCl (mw 97 ad (gs cs ad (m_X_go_32 I x1 x2))) H := hP
                      refine lv_iconst (v := 1) hx hb dX5_go_354 (by decide) ?_
                      exact q_iret hx hb hr hlocks dX5_go_355 hP hS (by rw [f_X_go, if_pos c2, if_neg c4, if_neg c6, if_neg c9, if_neg c12, if_neg c16, if_neg c17, if_neg c24, if_pos c30, if_neg c33])
                    · have c33 := c33
                      refine lv_iconst (v := 0) hx hb dX5_go_326 (by decide) ?_
                      exact q_iret hx hb hr hlocks dX5_go_327 hP hS (by rw [f_X_go, if_pos c2, if_neg c4, if_neg c6, if_neg c9, if_neg c12, if_neg c16, if_neg c17, if_neg c24, if_pos c30, if_pos c33])
  · have ok := ok.2 c2
    refine lv_iconst (v := 2) hx hb dX5_go_13 (by decide) ?_
    exact q_iret hx hb hr hlocks dX5_go_14 hP hS (by rw [f_X_go, if_neg c2])

def m_X_code_1 (I : Mm) (x1 x2 x3 x4 : Int32) : Mm := u2 I 77 (((16 * x1) + (I 76 x1.toNatClampNeg)).toNatClampNeg) x2
def m_X_code_2 (I : Mm) (x1 x2 x3 x4 : Int32) : Mm := u2 (m_X_code_1 I x1 x2 x3 x4) 78 (((16 * x1) + (I 76 x1.toNatClampNeg)).toNatClampNeg) x3
def m_X_code_3 (I : Mm) (x1 x2 x3 x4 : Int32) : Mm := u2 (m_X_code_2 I x1 x2 x3 x4) 79 (((16 * x1) + (I 76 x1.toNatClampNeg)).toNatClampNeg) x4
def m_X_code_4 (I : Mm) (x1 x2 x3 x4 : Int32) : Mm := u2 (m_X_code_3 I x1 x2 x3 x4) 76 x1.toNatClampNeg (((m_X_code_3 I x1 x2 x3 x4) 76 x1.toNatClampNeg) + 1)
def f_X_code (I : Mm) (x1 x2 x3 x4 : Int32) : Int32 × Mm := (if (f_X_isProcess x1) = 0 then (0, I) else (if (I 84 x1.toNatClampNeg) = 0 then (if (I 76 x1.toNatClampNeg) = 16 then (0, I) else (if x2 < 0 then (0, I) else (if x2 ≤ 7 then (if x2 = 4 then (if x3 < 0 then (0, I) else (if 15 < x3 then (0, I) else (if (f_X_usesB x2) = 0 then (1, (m_X_code_4 I x1 x2 x3 x4)) else (if (f_X_isRegister x4) = 0 then (0, I) else (1, (m_X_code_4 I x1 x2 x3 x4)))))) else (if x2 = 5 then (if (f_X_isChannel x1 x3) = 0 then (0, I) else (if (f_X_usesB x2) = 0 then (1, (m_X_code_4 I x1 x2 x3 x4)) else (if (f_X_isRegister x4) = 0 then (0, I) else (1, (m_X_code_4 I x1 x2 x3 x4))))) else (if (f_X_isRegister x3) = 0 then (0, I) else (if (f_X_usesB x2) = 0 then (1, (m_X_code_4 I x1 x2 x3 x4)) else (if (f_X_isRegister x4) = 0 then (0, I) else (1, (m_X_code_4 I x1 x2 x3 x4))))))) else (0, I)))) else (0, I)))
def ok_X_code (I : Mm) (x1 x2 x3 x4 : Int32) : Prop := ((f_X_isProcess x1) = 0 → True) ∧ (¬ (f_X_isProcess x1) = 0 → vp_in x1 3 ∧ (((I 84 x1.toNatClampNeg) = 0 → ((I 76 x1.toNatClampNeg) = 16 → True) ∧ (¬ (I 76 x1.toNatClampNeg) = 16 → (x2 < 0 → True) ∧ (¬ x2 < 0 → (x2 ≤ 7 → (x2 = 4 → (x3 < 0 → True) ∧ (¬ x3 < 0 → (15 < x3 → True) ∧ (¬ 15 < x3 → ((f_X_usesB x2) = 0 → vp_in ((16 * x1) + (I 76 x1.toNatClampNeg)) 48) ∧ (¬ (f_X_usesB x2) = 0 → ((f_X_isRegister x4) = 0 → True) ∧ (¬ (f_X_isRegister x4) = 0 → vp_in ((16 * x1) + (I 76 x1.toNatClampNeg)) 48))))) ∧ (¬ x2 = 4 → (x2 = 5 → ((f_X_isChannel x1 x3) = 0 → True) ∧ (¬ (f_X_isChannel x1 x3) = 0 → ((f_X_usesB x2) = 0 → vp_in ((16 * x1) + (I 76 x1.toNatClampNeg)) 48) ∧ (¬ (f_X_usesB x2) = 0 → ((f_X_isRegister x4) = 0 → True) ∧ (¬ (f_X_isRegister x4) = 0 → vp_in ((16 * x1) + (I 76 x1.toNatClampNeg)) 48)))) ∧ (¬ x2 = 5 → ((f_X_isRegister x3) = 0 → True) ∧ (¬ (f_X_isRegister x3) = 0 → ((f_X_usesB x2) = 0 → vp_in ((16 * x1) + (I 76 x1.toNatClampNeg)) 48) ∧ (¬ (f_X_usesB x2) = 0 → ((f_X_isRegister x4) = 0 → True) ∧ (¬ (f_X_isRegister x4) = 0 → vp_in ((16 * x1) + (I 76 x1.toNatClampNeg)) 48)))))) ∧ (¬ x2 ≤ 7 → True)))) ∧ (¬ (I 84 x1.toNatClampNeg) = 0 → True)))
theorem z_X_code (I : Mm) (x1 x2 x3 x4 : Int32) : narrow .boolean (.int (f_X_code I x1 x2 x3 x4).1) = .int (f_X_code I x1 x2 x3 x4).1 := by
  unfold f_X_code
  (repeat' split) <;> first | (with_reducible exact nb0 _) | (with_reducible exact nb1 _) | (with_reducible exact zz (z_X_isChannel _ _)) | (with_reducible exact zz (z_X_isProcess _)) | (with_reducible exact zz (z_X_isRegister _)) | (with_reducible exact zz (z_X_usesB _))
set_option maxHeartbeats 4000000 in
set_option maxRecDepth 100000 in
theorem c_X_code (l : Launch) (D : va_G) (cs : Nat → ClassId) (ad : Nat → Nat) (hi : mi ad) (I : Mm) (x1 x2 x3 x4 : Int32) (ok : ok_X_code I x1 x2 x3 x4) : MC l yX5_code wX5_code { frames := 2, cells := 0, slots := 0, locals := 41 } D cs ad [.ref (ad 75), .int x1, .int x2, .int x3, .int x4] I (some (.int (f_X_code I x1 x2 x3 x4).1)) (f_X_code I x1 x2 x3 x4).2 := by
  unfold ok_X_code at ok
  refine q_enter (cc := cX5_code) (maxL := 7) (ret := (some .boolean)) (by decide +kernel) rfl (Nat.le_of_ble_eq_true rfl) ?_
  intro p e s m below meth c ls hx hb hr hml hown hts hlocks hK hP hS hl
  have hown : s.vm.findClass RX5 = some m.cls := hown
  have hts : ∀ w ∈ gtbl, w.before _ s = true := fun w h => hts w (List.mem_cons_of_mem _ h)
  have hl : lv_has ls 7 [(0, .ref (ad 75)), (1, .int x1), (2, .int x2), (3, .int x3), (4, .int x4)] := hl
  refine lv_iload_n hx hb dX5_code_0 rfl (lv_at hl 1 rfl) ?_
  refine q_callp (va_runS (As := [.int x1]) (rest := []) ⟨hx, hb, hml, hown, hts⟩ (c_X_isProcess l D cs ad hi I x1) (va_cwS 1 hts (gS k_332 k_333 k_6 k_334) rfl rfl rfl (by decide +kernel) ⟨Nat.le_of_ble_eq_true rfl, Nat.le_of_ble_eq_true rfl⟩) (q_preS hK hP) rfl rfl hl.1 rfl (lv_room (Nat.le_of_ble_eq_true rfl)) dX5_code_1 ⟨Nat.zero_le _, Nat.zero_le _⟩) hS (fun _ h => h) (fun H locs hP hS => ?_)
  refine lv_if_eq (tgt := 37) hx hb dX5_code_4 (by decide) (fun c1 => ?_) (fun c1 => ?_)
  · have ok := ok.1 c1
    refine lv_iconst (v := 0) hx hb dX5_code_37 (by decide) ?_
    exact q_zret hx hb hr hlocks dX5_code_38 hP hS rfl (by rw [f_X_code, if_pos c1])
  · have ok := ok.2 c1
    refine lv_aload_n hx hb dX5_code_7 rfl (lv_at hl 0 rfl) ?_
    refine va_get (D := D) (ci := 5) (v := .ref (ad 84)) (C := RX5) (T := TX5) (N := 26) hx hb hts inX5 hown hK hP 75 (mq_X isO_75) rfl 8 (by decide) (hts _ k_283) (fun _ h9 => h9) rfl dX5_code_8 ?_
    refine lv_iload_n hx hb dX5_code_11 rfl (lv_at hl 1 rfl) ?_
    have g2 := ok.1
    have ok := ok.2
    refine va_zald hx hb hK hP 84 1 (mq_Z iZ_84) rfl g2 dX5_code_12 ?_
    refine lv_if_ne (tgt := 37) hx hb dX5_code_13 (by decide) (fun c3 => ?_) (fun c3 => ?_)
    · have ok := ok.2 c3
      refine lv_iconst (v := 0) hx hb dX5_code_37 (by decide) ?_
      exact q_zret hx hb hr hlocks dX5_code_38 hP hS rfl (by rw [f_X_code, if_neg c1, if_neg c3])
    · have ok := ok.1 c3
      refine lv_aload_n hx hb dX5_code_16 rfl (lv_at hl 0 rfl) ?_
      refine va_get (D := D) (ci := 5) (v := .ref (ad 76)) (C := RX5) (T := TX5) (N := 26) hx hb hts inX5 hown hK hP 75 (mq_X isO_75) rfl 0 (by decide) (hts _ k_275) (fun _ h9 => h9) rfl dX5_code_17 ?_
      refine lv_iload_n hx hb dX5_code_20 rfl (lv_at hl 1 rfl) ?_
      refine va_iald hx hb hK hP 76 0 (mq_A iA_76) rfl g2 dX5_code_21 ?_
      refine lv_bipush (v := 16) hx hb dX5_code_22 (by decide) ?_
      refine lv_icmp_eq (tgt := 37) hx hb dX5_code_24 (by decide) (fun c4 => ?_) (fun c4 => ?_)
      · have ok := ok.1 c4
        refine lv_iconst (v := 0) hx hb dX5_code_37 (by decide) ?_
        exact q_zret hx hb hr hlocks dX5_code_38 hP hS rfl (by rw [f_X_code, if_neg c1, if_pos c3, if_pos c4])
      · have ok := ok.2 c4
        refine lv_iload_n hx hb dX5_code_27 rfl (lv_at hl 2 rfl) ?_
        refine lv_if_lt (tgt := 37) hx hb dX5_code_28 (by decide) (fun c5 => ?_) (fun c5 => ?_)
        · have ok := ok.1 c5
          refine lv_iconst (v := 0) hx hb dX5_code_37 (by decide) ?_
          exact q_zret hx hb hr hlocks dX5_code_38 hP hS rfl (by rw [f_X_code, if_neg c1, if_pos c3, if_neg c4, if_pos c5])
        · have ok := ok.2 c5
          refine lv_iload_n hx hb dX5_code_31 rfl (lv_at hl 2 rfl) ?_
          refine lv_bipush (v := 7) hx hb dX5_code_32 (by decide) ?_
          refine lv_icmp_le (tgt := 39) hx hb dX5_code_34 (by decide) (fun c6 => ?_) (fun c6 => ?_)
          · have ok := ok.1 c6
            refine lv_iload_n hx hb dX5_code_39 rfl (lv_at hl 2 rfl) ?_
            refine lv_iconst (v := 4) hx hb dX5_code_40 (by decide) ?_
            refine lv_icmp_ne (tgt := 62) hx hb dX5_code_41 (by decide) (fun c7 => ?_) (fun c7 => ?_)
            · have ok := ok.2 c7
              refine lv_iload_n hx hb dX5_code_62 rfl (lv_at hl 2 rfl) ?_
              refine lv_iconst (v := 5) hx hb dX5_code_63 (by decide) ?_
              refine lv_icmp_ne (tgt := 75) hx hb dX5_code_64 (by decide) (fun c8 => ?_) (fun c8 => ?_)
              · have ok := ok.2 c8
                refine lv_iload_n hx hb dX5_code_75 rfl (lv_at hl 3 rfl) ?_
                refine q_callp (va_runS (As := [.int x3]) (rest := []) ⟨hx, hb, hml, hown, hts⟩ (c_X_isRegister l D cs ad hi I x3) (va_cwS 1 hts (gS k_338 k_339 k_6 k_340) rfl rfl rfl (by decide +kernel) ⟨Nat.le_of_ble_eq_true rfl, Nat.le_of_ble_eq_true rfl⟩) (q_preS hK hP) rfl rfl hl.1 rfl (lv_room (Nat.le_of_ble_eq_true rfl)) dX5_code_76 ⟨Nat.zero_le _, Nat.zero_le _⟩) hS (fun _ h => h) (fun H locs hP hS => ?_)
                refine lv_istore (lv' := [(5, .int (f_X_isRegister x3)), (0, .ref (ad 75)), (1, .int x1), (2, .int x2), (3, .int x3), (4, .int x4)]) hx hb dX5_code_79 hl (by decide) rfl (fun ls hl => ?_)
                refine lv_iload hx hb dX5_code_81 (lv_at hl 0 rfl) ?_
                refine lv_if_eq (tgt := 101) hx hb dX5_code_83 (by decide) (fun c9 => ?_) (fun c9 => ?_)
                · have ok := ok.1 c9
                  refine lv_iconst (v := 0) hx hb dX5_code_101 (by decide) ?_
                  exact q_zret hx hb hr hlocks dX5_code_102 hP hS rfl (by rw [f_X_code, if_neg c1, if_pos c3, if_neg c4, if_neg c5, if_pos c6, if_neg c7, if_neg c8, if_pos c9])
                · have ok := ok.2 c9
                  refine lv_iload_n hx hb dX5_code_86 rfl (lv_at hl 3 rfl) ?_
                  refine q_callp (va_runS (As := [.int x2]) (rest := []) ⟨hx, hb, hml, hown, hts⟩ (c_X_usesB l D cs ad hi I x2) (va_cwS 1 hts (gS k_341 k_342 k_6 k_343) rfl rfl rfl (by decide +kernel) ⟨Nat.le_of_ble_eq_true rfl, Nat.le_of_ble_eq_true rfl⟩) (q_preS hK hP) rfl rfl hl.1 rfl (lv_room (Nat.le_of_ble_eq_true rfl)) dX5_code_87 ⟨Nat.zero_le _, Nat.zero_le _⟩) hS (fun _ h => h) (fun H locs hP hS => ?_)
                  refine lv_if_eq (tgt := 103) hx hb dX5_code_90 (by decide) (fun c10 => ?_) (fun c10 => ?_)
                  · have ok := ok.1 c10
                    refine lv_bipush (v := 16) hx hb dX5_code_103 (by decide) ?_
                    refine lv_iload_n hx hb dX5_code_105 rfl (lv_at hl 2 rfl) ?_
                    refine lv_imul hx hb dX5_code_106 ?_
                    refine lv_aload_n hx hb dX5_code_107 rfl (lv_at hl 1 rfl) ?_
                    refine va_get (D := D) (ci := 5) (v := .ref (ad 76)) (C := RX5) (T := TX5) (N := 26) hx hb hts inX5 hown hK hP 75 (mq_X isO_75) rfl 0 (by decide) (hts _ k_275) (fun _ h9 => h9) rfl dX5_code_108 ?_
                    refine lv_iload_n hx hb dX5_code_111 rfl (lv_at hl 2 rfl) ?_
                    refine va_iald hx hb hK hP 76 0 (mq_A iA_76) rfl g2 dX5_code_112 ?_
                    refine lv_iadd hx hb dX5_code_113 ?_
                    refine lv_istore (lv' := [(6, .int ((16 * x1) + (I 76 x1.toNatClampNeg))), (5, .int (f_X_isRegister x3)), (0, .ref (ad 75)), (1, .int x1), (2, .int x2), (3, .int x3), (4, .int x4)]) hx hb dX5_code_114 hl (by decide) rfl (fun ls hl => ?_)
                    refine lv_aload_n hx hb dX5_code_116 rfl (lv_at hl 2 rfl) ?_
                    refine va_get (D := D) (ci := 5) (v := .ref (ad 77)) (C := RX5) (T := TX5) (N := 26) hx hb hts inX5 hown hK hP 75 (mq_X isO_75) rfl 1 (by decide) (hts _ k_276) (fun _ h9 => h9) rfl dX5_code_117 ?_
                    refine lv_iload hx hb dX5_code_120 (lv_at hl 0 rfl) ?_
                    refine lv_iload_n hx hb dX5_code_122 rfl (lv_at hl 4 rfl) ?_
                    have g11 := ok
                    refine va_iast hx hb hK hP (mD hi) hS 77 0 (mq_A iA_77) rfl g11 dX5_code_123 (fun H locs hP _ hS => ?_)
                    have hP := ms_A iA_77 hP
                    have hP : va_P D vwCl (mw 97 ad (gs cs ad (m_X_code_1 I x1 x2 x3 x4))) H := hP
                    refine lv_aload_n hx hb dX5_code_124 rfl (lv_at hl 2 rfl) ?_
                    refine va_get (D := D) (ci := 5) (v := .ref (ad 78)) (C := RX5) (T := TX5) (N := 26) hx hb hts inX5 hown hK hP 75 (mq_X isO_75) rfl 2 (by decide) (hts _ k_277) (fun _ h9 => h9) rfl dX5_code_125 ?_
                    refine lv_iload hx hb dX5_code_128 (lv_at hl 0 rfl) ?_
                    refine lv_iload_n hx hb dX5_code_130 rfl (lv_at hl 5 rfl) ?_
                    refine va_iast hx hb hK hP (mD hi) hS 78 0 (mq_A iA_78) rfl g11 dX5_code_131 (fun H locs hP _ hS => ?_)
                    have hP := ms_A iA_78 hP
                    have hP : va_P D vwCl (mw 97 ad (gs cs ad (m_X_code_2 I x1 x2 x3 x4))) H := hP
                    refine lv_aload_n hx hb dX5_code_132 rfl (lv_at hl 2 rfl) ?_
                    refine va_get (D := D) (ci := 5) (v := .ref (ad 79)) (C := RX5) (T := TX5) (N := 26) hx hb hts inX5 hown hK hP 75 (mq_X isO_75) rfl 3 (by decide) (hts _ k_278) (fun _ h9 => h9) rfl dX5_code_133 ?_
                    refine lv_iload hx hb dX5_code_136 (lv_at hl 0 rfl) ?_
                    refine lv_iload hx hb dX5_code_138 (lv_at hl 6 rfl) ?_
                    refine va_iast hx hb hK hP (mD hi) hS 79 0 (mq_A iA_79) rfl g11 dX5_code_140 (fun H locs hP _ hS => ?_)
                    have hP := ms_A iA_79 hP
                    have hP : va_P D vwCl (mw 97 ad (gs cs ad (m_X_code_3 I x1 x2 x3 x4))) H := hP
                    refine lv_aload_n hx hb dX5_code_141 rfl (lv_at hl 2 rfl) ?_
                    refine va_get (D := D) (ci := 5) (v := .ref (ad 76)) (C := RX5) (T := TX5) (N := 26) hx hb hts inX5 hown hK hP 75 (mq_X isO_75) rfl 0 (by decide) (hts _ k_275) (fun _ h9 => h9) rfl dX5_code_142 ?_
                    refine lv_iload_n hx hb dX5_code_145 rfl (lv_at hl 3 rfl) ?_
                    refine lv_dup2_11 hx hb dX5_code_146 rfl rfl ?_
                    refine va_iald hx hb hK hP 76 0 (mq_A iA_76) rfl g2 dX5_code_147 ?_
                    refine lv_iconst (v := 1) hx hb dX5_code_148 (by decide) ?_
                    refine lv_iadd hx hb dX5_code_149 ?_
                    refine va_iast hx hb hK hP (mD hi) hS 76 0 (mq_A iA_76) rfl g2 dX5_code_150 (fun H locs hP _ hS => ?_)
                    have hP := ms_A iA_76 hP
                    have hP : va_P D vwCl (mw 97 ad (gs cs ad (m_X_code_4 I x1 x2 x3 x4))) H := hP
                    refine lv_iconst (v := 1) hx hb dX5_code_151 (by decide) ?_
                    exact q_zret hx hb hr hlocks dX5_code_152 hP hS rfl (by rw [f_X_code, if_neg c1, if_pos c3, if_neg c4, if_neg c5, if_pos c6, if_neg c7, if_neg c8, if_neg c9, if_pos c10])
                  · have ok := ok.2 c10
                    refine lv_iload hx hb dX5_code_93 (lv_at hl 5 rfl) ?_
                    refine q_callp (va_runS (As := [.int x4]) (rest := []) ⟨hx, hb, hml, hown, hts⟩ (c_X_isRegister l D cs ad hi I x4) (va_cwS 1 hts (gS k_338 k_339 k_6 k_340) rfl rfl rfl (by decide +kernel) ⟨Nat.le_of_ble_eq_true rfl, Nat.le_of_ble_eq_true rfl⟩) (q_preS hK hP) rfl rfl hl.1 rfl (lv_room (Nat.le_of_ble_eq_true rfl)) dX5_code_95 ⟨Nat.zero_le _, Nat.zero_le _⟩) hS (fun _ h => h) (fun H locs hP hS => ?_)
                    refine lv_if_ne (tgt := 103) hx hb dX5_code_98 (by decide) (fun c12 => ?_) (fun c12 => ?_)
                    · have ok := ok.2 c12
                      refine lv_bipush (v := 16) hx hb dX5_code_103 (by decide) ?_
                      refine lv_iload_n hx hb dX5_code_105 rfl (lv_at hl 2 rfl) ?_
                      refine lv_imul hx hb dX5_code_106 ?_
                      refine lv_aload_n hx hb dX5_code_107 rfl (lv_at hl 1 rfl) ?_
                      refine va_get (D := D) (ci := 5) (v := .ref (ad 76)) (C := RX5) (T := TX5) (N := 26) hx hb hts inX5 hown hK hP 75 (mq_X isO_75) rfl 0 (by decide) (hts _ k_275) (fun _ h9 => h9) rfl dX5_code_108 ?_
                      refine lv_iload_n hx hb dX5_code_111 rfl (lv_at hl 2 rfl) ?_
                      refine va_iald hx hb hK hP 76 0 (mq_A iA_76) rfl g2 dX5_code_112 ?_
                      refine lv_iadd hx hb dX5_code_113 ?_
                      refine lv_istore (lv' := [(6, .int ((16 * x1) + (I 76 x1.toNatClampNeg))), (5, .int (f_X_isRegister x3)), (0, .ref (ad 75)), (1, .int x1), (2, .int x2), (3, .int x3), (4, .int x4)]) hx hb dX5_code_114 hl (by decide) rfl (fun ls hl => ?_)
                      refine lv_aload_n hx hb dX5_code_116 rfl (lv_at hl 2 rfl) ?_
                      refine va_get (D := D) (ci := 5) (v := .ref (ad 77)) (C := RX5) (T := TX5) (N := 26) hx hb hts inX5 hown hK hP 75 (mq_X isO_75) rfl 1 (by decide) (hts _ k_276) (fun _ h9 => h9) rfl dX5_code_117 ?_
                      refine lv_iload hx hb dX5_code_120 (lv_at hl 0 rfl) ?_
                      refine lv_iload_n hx hb dX5_code_122 rfl (lv_at hl 4 rfl) ?_
                      have g13 := ok
                      refine va_iast hx hb hK hP (mD hi) hS 77 0 (mq_A iA_77) rfl g13 dX5_code_123 (fun H locs hP _ hS => ?_)
                      have hP := ms_A iA_77 hP
                      have hP : va_P D vwCl (mw 97 ad (gs cs ad (m_X_code_1 I x1 x2 x3 x4))) H := hP
                      refine lv_aload_n hx hb dX5_code_124 rfl (lv_at hl 2 rfl) ?_
                      refine va_get (D := D) (ci := 5) (v := .ref (ad 78)) (C := RX5) (T := TX5) (N := 26) hx hb hts inX5 hown hK hP 75 (mq_X isO_75) rfl 2 (by decide) (hts _ k_277) (fun _ h9 => h9) rfl dX5_code_125 ?_
                      refine lv_iload hx hb dX5_code_128 (lv_at hl 0 rfl) ?_
                      refine lv_iload_n hx hb dX5_code_130 rfl (lv_at hl 5 rfl) ?_
                      refine va_iast hx hb hK hP (mD hi) hS 78 0 (mq_A iA_78) rfl g13 dX5_code_131 (fun H locs hP _ hS => ?_)
                      have hP := ms_A iA_78 hP
                      have hP : va_P D vwCl (mw 97 ad (gs cs ad (m_X_code_2 I x1 x2 x3 x4))) H := hP
                      refine lv_aload_n hx hb dX5_code_132 rfl (lv_at hl 2 rfl) ?_
                      refine va_get (D := D) (ci := 5) (v := .ref (ad 79)) (C := RX5) (T := TX5) (N := 26) hx hb hts inX5 hown hK hP 75 (mq_X isO_75) rfl 3 (by decide) (hts _ k_278) (fun _ h9 => h9) rfl dX5_code_133 ?_
                      refine lv_iload hx hb dX5_code_136 (lv_at hl 0 rfl) ?_
                      refine lv_iload hx hb dX5_code_138 (lv_at hl 6 rfl) ?_
                      refine va_iast hx hb hK hP (mD hi) hS 79 0 (mq_A iA_79) rfl g13 dX5_code_140 (fun H locs hP _ hS => ?_)
                      have hP := ms_A iA_79 hP
                      have hP : va_P D vwCl (mw 97 ad (gs cs ad (m_X_code_3 I x1 x2 x3 x4))) H := hP
                      refine lv_aload_n hx hb dX5_code_141 rfl (lv_at hl 2 rfl) ?_
                      refine va_get (D := D) (ci := 5) (v := .ref (ad 76)) (C := RX5) (T := TX5) (N := 26) hx hb hts inX5 hown hK hP 75 (mq_X isO_75) rfl 0 (by decide) (hts _ k_275) (fun _ h9 => h9) rfl dX5_code_142 ?_
                      refine lv_iload_n hx hb dX5_code_145 rfl (lv_at hl 3 rfl) ?_
                      refine lv_dup2_11 hx hb dX5_code_146 rfl rfl ?_
                      refine va_iald hx hb hK hP 76 0 (mq_A iA_76) rfl g2 dX5_code_147 ?_
                      refine lv_iconst (v := 1) hx hb dX5_code_148 (by decide) ?_
                      refine lv_iadd hx hb dX5_code_149 ?_
                      refine va_iast hx hb hK hP (mD hi) hS 76 0 (mq_A iA_76) rfl g2 dX5_code_150 (fun H locs hP _ hS => ?_)
                      have hP := ms_A iA_76 hP
                      have hP : va_P D vwCl (mw 97 ad (gs cs ad (m_X_code_4 I x1 x2 x3 x4))) H := hP
                      refine lv_iconst (v := 1) hx hb dX5_code_151 (by decide) ?_
                      exact q_zret hx hb hr hlocks dX5_code_152 hP hS rfl (by rw [f_X_code, if_neg c1, if_pos c3, if_neg c4, if_neg c5, if_pos c6, if_neg c7, if_neg c8, if_neg c9, if_neg c10, if_neg c12])
                    · have ok := ok.1 c12
                      refine lv_iconst (v := 0) hx hb dX5_code_101 (by decide) ?_
                      exact q_zret hx hb hr hlocks dX5_code_102 hP hS rfl (by rw [f_X_code, if_neg c1, if_pos c3, if_neg c4, if_neg c5, if_pos c6, if_neg c7, if_neg c8, if_neg c9, if_neg c10, if_pos c12])
              · have ok := ok.1 c8
                refine lv_iload_n hx hb dX5_code_67 rfl (lv_at hl 1 rfl) ?_
                refine lv_iload_n hx hb dX5_code_68 rfl (lv_at hl 3 rfl) ?_
                refine q_callp (va_runS (As := [.int x1, .int x3]) (rest := []) ⟨hx, hb, hml, hown, hts⟩ (c_X_isChannel l D cs ad hi I x1 x3) (va_cwS 2 hts (gS k_335 k_336 k_6 k_337) rfl rfl rfl (by decide +kernel) ⟨Nat.le_of_ble_eq_true rfl, Nat.le_of_ble_eq_true rfl⟩) (q_preS hK hP) rfl rfl hl.1 rfl (lv_room (Nat.le_of_ble_eq_true rfl)) dX5_code_69 ⟨Nat.zero_le _, Nat.zero_le _⟩) hS (fun _ h => h) (fun H locs hP hS => ?_)
                refine lv_goto (tgt := 79) hx hb dX5_code_72 (by decide) ?_
                refine lv_istore (lv' := [(5, .int (f_X_isChannel x1 x3)), (0, .ref (ad 75)), (1, .int x1), (2, .int x2), (3, .int x3), (4, .int x4)]) hx hb dX5_code_79 hl (by decide) rfl (fun ls hl => ?_)
                refine lv_iload hx hb dX5_code_81 (lv_at hl 0 rfl) ?_
                refine lv_if_eq (tgt := 101) hx hb dX5_code_83 (by decide) (fun c14 => ?_) (fun c14 => ?_)
                · have ok := ok.1 c14
                  refine lv_iconst (v := 0) hx hb dX5_code_101 (by decide) ?_
                  exact q_zret hx hb hr hlocks dX5_code_102 hP hS rfl (by rw [f_X_code, if_neg c1, if_pos c3, if_neg c4, if_neg c5, if_pos c6, if_neg c7, if_pos c8, if_pos c14])
                · have ok := ok.2 c14
                  refine lv_iload_n hx hb dX5_code_86 rfl (lv_at hl 3 rfl) ?_
                  refine q_callp (va_runS (As := [.int x2]) (rest := []) ⟨hx, hb, hml, hown, hts⟩ (c_X_usesB l D cs ad hi I x2) (va_cwS 1 hts (gS k_341 k_342 k_6 k_343) rfl rfl rfl (by decide +kernel) ⟨Nat.le_of_ble_eq_true rfl, Nat.le_of_ble_eq_true rfl⟩) (q_preS hK hP) rfl rfl hl.1 rfl (lv_room (Nat.le_of_ble_eq_true rfl)) dX5_code_87 ⟨Nat.zero_le _, Nat.zero_le _⟩) hS (fun _ h => h) (fun H locs hP hS => ?_)
                  refine lv_if_eq (tgt := 103) hx hb dX5_code_90 (by decide) (fun c15 => ?_) (fun c15 => ?_)
                  · have ok := ok.1 c15
                    refine lv_bipush (v := 16) hx hb dX5_code_103 (by decide) ?_
                    refine lv_iload_n hx hb dX5_code_105 rfl (lv_at hl 2 rfl) ?_
                    refine lv_imul hx hb dX5_code_106 ?_
                    refine lv_aload_n hx hb dX5_code_107 rfl (lv_at hl 1 rfl) ?_
                    refine va_get (D := D) (ci := 5) (v := .ref (ad 76)) (C := RX5) (T := TX5) (N := 26) hx hb hts inX5 hown hK hP 75 (mq_X isO_75) rfl 0 (by decide) (hts _ k_275) (fun _ h9 => h9) rfl dX5_code_108 ?_
                    refine lv_iload_n hx hb dX5_code_111 rfl (lv_at hl 2 rfl) ?_
                    refine va_iald hx hb hK hP 76 0 (mq_A iA_76) rfl g2 dX5_code_112 ?_
                    refine lv_iadd hx hb dX5_code_113 ?_
                    refine lv_istore (lv' := [(6, .int ((16 * x1) + (I 76 x1.toNatClampNeg))), (5, .int (f_X_isChannel x1 x3)), (0, .ref (ad 75)), (1, .int x1), (2, .int x2), (3, .int x3), (4, .int x4)]) hx hb dX5_code_114 hl (by decide) rfl (fun ls hl => ?_)
                    refine lv_aload_n hx hb dX5_code_116 rfl (lv_at hl 2 rfl) ?_
                    refine va_get (D := D) (ci := 5) (v := .ref (ad 77)) (C := RX5) (T := TX5) (N := 26) hx hb hts inX5 hown hK hP 75 (mq_X isO_75) rfl 1 (by decide) (hts _ k_276) (fun _ h9 => h9) rfl dX5_code_117 ?_
                    refine lv_iload hx hb dX5_code_120 (lv_at hl 0 rfl) ?_
                    refine lv_iload_n hx hb dX5_code_122 rfl (lv_at hl 4 rfl) ?_
                    have g16 := ok
                    refine va_iast hx hb hK hP (mD hi) hS 77 0 (mq_A iA_77) rfl g16 dX5_code_123 (fun H locs hP _ hS => ?_)
                    have hP := ms_A iA_77 hP
                    have hP : va_P D vwCl (mw 97 ad (gs cs ad (m_X_code_1 I x1 x2 x3 x4))) H := hP
                    refine lv_aload_n hx hb dX5_code_124 rfl (lv_at hl 2 rfl) ?_
                    refine va_get (D := D) (ci := 5) (v := .ref (ad 78)) (C := RX5) (T := TX5) (N := 26) hx hb hts inX5 hown hK hP 75 (mq_X isO_75) rfl 2 (by decide) (hts _ k_277) (fun _ h9 => h9) rfl dX5_code_125 ?_
                    refine lv_iload hx hb dX5_code_128 (lv_at hl 0 rfl) ?_
                    refine lv_iload_n hx hb dX5_code_130 rfl (lv_at hl 5 rfl) ?_
                    refine va_iast hx hb hK hP (mD hi) hS 78 0 (mq_A iA_78) rfl g16 dX5_code_131 (fun H locs hP _ hS => ?_)
                    have hP := ms_A iA_78 hP
                    have hP : va_P D vwCl (mw 97 ad (gs cs ad (m_X_code_2 I x1 x2 x3 x4))) H := hP
                    refine lv_aload_n hx hb dX5_code_132 rfl (lv_at hl 2 rfl) ?_
                    refine va_get (D := D) (ci := 5) (v := .ref (ad 79)) (C := RX5) (T := TX5) (N := 26) hx hb hts inX5 hown hK hP 75 (mq_X isO_75) rfl 3 (by decide) (hts _ k_278) (fun _ h9 => h9) rfl dX5_code_133 ?_
                    refine lv_iload hx hb dX5_code_136 (lv_at hl 0 rfl) ?_
                    refine lv_iload hx hb dX5_code_138 (lv_at hl 6 rfl) ?_
                    refine va_iast hx hb hK hP (mD hi) hS 79 0 (mq_A iA_79) rfl g16 dX5_code_140 (fun H locs hP _ hS => ?_)
                    have hP := ms_A iA_79 hP
                    have hP : va_P D vwCl (mw 97 ad (gs cs ad (m_X_code_3 I x1 x2 x3 x4))) H := hP
                    refine lv_aload_n hx hb dX5_code_141 rfl (lv_at hl 2 rfl) ?_
                    refine va_get (D := D) (ci := 5) (v := .ref (ad 76)) (C := RX5) (T := TX5) (N := 26) hx hb hts inX5 hown hK hP 75 (mq_X isO_75) rfl 0 (by decide) (hts _ k_275) (fun _ h9 => h9) rfl dX5_code_142 ?_
                    refine lv_iload_n hx hb dX5_code_145 rfl (lv_at hl 3 rfl) ?_
                    refine lv_dup2_11 hx hb dX5_code_146 rfl rfl ?_
                    refine va_iald hx hb hK hP 76 0 (mq_A iA_76) rfl g2 dX5_code_147 ?_
                    refine lv_iconst (v := 1) hx hb dX5_code_148 (by decide) ?_
                    refine lv_iadd hx hb dX5_code_149 ?_
                    refine va_iast hx hb hK hP (mD hi) hS 76 0 (mq_A iA_76) rfl g2 dX5_code_150 (fun H locs hP _ hS => ?_)
                    have hP := ms_A iA_76 hP
                    have hP : va_P D vwCl (mw 97 ad (gs cs ad (m_X_code_4 I x1 x2 x3 x4))) H := hP
                    refine lv_iconst (v := 1) hx hb dX5_code_151 (by decide) ?_
                    exact q_zret hx hb hr hlocks dX5_code_152 hP hS rfl (by rw [f_X_code, if_neg c1, if_pos c3, if_neg c4, if_neg c5, if_pos c6, if_neg c7, if_pos c8, if_neg c14, if_pos c15])
                  · have ok := ok.2 c15
                    refine lv_iload hx hb dX5_code_93 (lv_at hl 5 rfl) ?_
                    refine q_callp (va_runS (As := [.int x4]) (rest := []) ⟨hx, hb, hml, hown, hts⟩ (c_X_isRegister l D cs ad hi I x4) (va_cwS 1 hts (gS k_338 k_339 k_6 k_340) rfl rfl rfl (by decide +kernel) ⟨Nat.le_of_ble_eq_true rfl, Nat.le_of_ble_eq_true rfl⟩) (q_preS hK hP) rfl rfl hl.1 rfl (lv_room (Nat.le_of_ble_eq_true rfl)) dX5_code_95 ⟨Nat.zero_le _, Nat.zero_le _⟩) hS (fun _ h => h) (fun H locs hP hS => ?_)
                    refine lv_if_ne (tgt := 103) hx hb dX5_code_98 (by decide) (fun c17 => ?_) (fun c17 => ?_)
                    · have ok := ok.2 c17
                      refine lv_bipush (v := 16) hx hb dX5_code_103 (by decide) ?_
                      refine lv_iload_n hx hb dX5_code_105 rfl (lv_at hl 2 rfl) ?_
                      refine lv_imul hx hb dX5_code_106 ?_
                      refine lv_aload_n hx hb dX5_code_107 rfl (lv_at hl 1 rfl) ?_
                      refine va_get (D := D) (ci := 5) (v := .ref (ad 76)) (C := RX5) (T := TX5) (N := 26) hx hb hts inX5 hown hK hP 75 (mq_X isO_75) rfl 0 (by decide) (hts _ k_275) (fun _ h9 => h9) rfl dX5_code_108 ?_
                      refine lv_iload_n hx hb dX5_code_111 rfl (lv_at hl 2 rfl) ?_
                      refine va_iald hx hb hK hP 76 0 (mq_A iA_76) rfl g2 dX5_code_112 ?_
                      refine lv_iadd hx hb dX5_code_113 ?_
                      refine lv_istore (lv' := [(6, .int ((16 * x1) + (I 76 x1.toNatClampNeg))), (5, .int (f_X_isChannel x1 x3)), (0, .ref (ad 75)), (1, .int x1), (2, .int x2), (3, .int x3), (4, .int x4)]) hx hb dX5_code_114 hl (by decide) rfl (fun ls hl => ?_)
                      refine lv_aload_n hx hb dX5_code_116 rfl (lv_at hl 2 rfl) ?_
                      refine va_get (D := D) (ci := 5) (v := .ref (ad 77)) (C := RX5) (T := TX5) (N := 26) hx hb hts inX5 hown hK hP 75 (mq_X isO_75) rfl 1 (by decide) (hts _ k_276) (fun _ h9 => h9) rfl dX5_code_117 ?_
                      refine lv_iload hx hb dX5_code_120 (lv_at hl 0 rfl) ?_
                      refine lv_iload_n hx hb dX5_code_122 rfl (lv_at hl 4 rfl) ?_
                      have g18 := ok
                      refine va_iast hx hb hK hP (mD hi) hS 77 0 (mq_A iA_77) rfl g18 dX5_code_123 (fun H locs hP _ hS => ?_)
                      have hP := ms_A iA_77 hP
                      have hP : va_P D vwCl (mw 97 ad (gs cs ad (m_X_code_1 I x1 x2 x3 x4))) H := hP
                      refine lv_aload_n hx hb dX5_code_124 rfl (lv_at hl 2 rfl) ?_
                      refine va_get (D := D) (ci := 5) (v := .ref (ad 78)) (C := RX5) (T := TX5) (N := 26) hx hb hts inX5 hown hK hP 75 (mq_X isO_75) rfl 2 (by decide) (hts _ k_277) (fun _ h9 => h9) rfl dX5_code_125 ?_
                      refine lv_iload hx hb dX5_code_128 (lv_at hl 0 rfl) ?_
                      refine lv_iload_n hx hb dX5_code_130 rfl (lv_at hl 5 rfl) ?_
                      refine va_iast hx hb hK hP (mD hi) hS 78 0 (mq_A iA_78) rfl g18 dX5_code_131 (fun H locs hP _ hS => ?_)
                      have hP := ms_A iA_78 hP
                      have hP : va_P D vwCl (mw 97 ad (gs cs ad (m_X_code_2 I x1 x2 x3 x4))) H := hP
                      refine lv_aload_n hx hb dX5_code_132 rfl (lv_at hl 2 rfl) ?_
                      refine va_get (D := D) (ci := 5) (v := .ref (ad 79)) (C := RX5) (T := TX5) (N := 26) hx hb hts inX5 hown hK hP 75 (mq_X isO_75) rfl 3 (by decide) (hts _ k_278) (fun _ h9 => h9) rfl dX5_code_133 ?_
                      refine lv_iload hx hb dX5_code_136 (lv_at hl 0 rfl) ?_
                      refine lv_iload hx hb dX5_code_138 (lv_at hl 6 rfl) ?_
                      refine va_iast hx hb hK hP (mD hi) hS 79 0 (mq_A iA_79) rfl g18 dX5_code_140 (fun H locs hP _ hS => ?_)
                      have hP := ms_A iA_79 hP
                      have hP : va_P D vwCl (mw 97 ad (gs cs ad (m_X_code_3 I x1 x2 x3 x4))) H := hP
                      refine lv_aload_n hx hb dX5_code_141 rfl (lv_at hl 2 rfl) ?_
                      refine va_get (D := D) (ci := 5) (v := .ref (ad 76)) (C := RX5) (T := TX5) (N := 26) hx hb hts inX5 hown hK hP 75 (mq_X isO_75) rfl 0 (by decide) (hts _ k_275) (fun _ h9 => h9) rfl dX5_code_142 ?_
                      refine lv_iload_n hx hb dX5_code_145 rfl (lv_at hl 3 rfl) ?_
                      refine lv_dup2_11 hx hb dX5_code_146 rfl rfl ?_
                      refine va_iald hx hb hK hP 76 0 (mq_A iA_76) rfl g2 dX5_code_147 ?_
                      refine lv_iconst (v := 1) hx hb dX5_code_148 (by decide) ?_
                      refine lv_iadd hx hb dX5_code_149 ?_
                      refine va_iast hx hb hK hP (mD hi) hS 76 0 (mq_A iA_76) rfl g2 dX5_code_150 (fun H locs hP _ hS => ?_)
                      have hP := ms_A iA_76 hP
                      have hP : va_P D vwCl (mw 97 ad (gs cs ad (m_X_code_4 I x1 x2 x3 x4))) H := hP
                      refine lv_iconst (v := 1) hx hb dX5_code_151 (by decide) ?_
                      exact q_zret hx hb hr hlocks dX5_code_152 hP hS rfl (by rw [f_X_code, if_neg c1, if_pos c3, if_neg c4, if_neg c5, if_pos c6, if_neg c7, if_pos c8, if_neg c14, if_neg c15, if_neg c17])
                    · have ok := ok.1 c17
                      refine lv_iconst (v := 0) hx hb dX5_code_101 (by decide) ?_
                      exact q_zret hx hb hr hlocks dX5_code_102 hP hS rfl (by rw [f_X_code, if_neg c1, if_pos c3, if_neg c4, if_neg c5, if_pos c6, if_neg c7, if_pos c8, if_neg c14, if_neg c15, if_pos c17])
            · have ok := ok.1 c7
              refine lv_iload_n hx hb dX5_code_44 rfl (lv_at hl 3 rfl) ?_
              refine lv_if_lt (tgt := 58) hx hb dX5_code_45 (by decide) (fun c19 => ?_) (fun c19 => ?_)
              · have ok := ok.1 c19
                refine lv_iconst (v := 0) hx hb dX5_code_58 (by decide) ?_
                refine lv_goto (tgt := 79) hx hb dX5_code_59 (by decide) ?_
                refine lv_istore (lv' := [(5, .int 0), (0, .ref (ad 75)), (1, .int x1), (2, .int x2), (3, .int x3), (4, .int x4)]) hx hb dX5_code_79 hl (by decide) rfl (fun ls hl => ?_)
                refine lv_iload hx hb dX5_code_81 (lv_at hl 0 rfl) ?_
                refine lv_if_eq (tgt := 101) hx hb dX5_code_83 (by decide) (fun c20 => ?_) (fun c20 => absurd c20 (by decide))
                refine lv_iconst (v := 0) hx hb dX5_code_101 (by decide) ?_
                exact q_zret hx hb hr hlocks dX5_code_102 hP hS rfl (by rw [f_X_code, if_neg c1, if_pos c3, if_neg c4, if_neg c5, if_pos c6, if_pos c7, if_pos c19])
              · have ok := ok.2 c19
                refine lv_iload_n hx hb dX5_code_48 rfl (lv_at hl 3 rfl) ?_
                refine lv_bipush (v := 15) hx hb dX5_code_49 (by decide) ?_
                refine lv_icmp_gt (tgt := 58) hx hb dX5_code_51 (by decide) (fun c21 => ?_) (fun c21 => ?_)
                · have ok := ok.1 c21
                  refine lv_iconst (v := 0) hx hb dX5_code_58 (by decide) ?_
                  refine lv_goto (tgt := 79) hx hb dX5_code_59 (by decide) ?_
                  refine lv_istore (lv' := [(5, .int 0), (0, .ref (ad 75)), (1, .int x1), (2, .int x2), (3, .int x3), (4, .int x4)]) hx hb dX5_code_79 hl (by decide) rfl (fun ls hl => ?_)
                  refine lv_iload hx hb dX5_code_81 (lv_at hl 0 rfl) ?_
                  refine lv_if_eq (tgt := 101) hx hb dX5_code_83 (by decide) (fun c22 => ?_) (fun c22 => absurd c22 (by decide))
                  refine lv_iconst (v := 0) hx hb dX5_code_101 (by decide) ?_
                  exact q_zret hx hb hr hlocks dX5_code_102 hP hS rfl (by rw [f_X_code, if_neg c1, if_pos c3, if_neg c4, if_neg c5, if_pos c6, if_pos c7, if_neg c19, if_pos c21])
                · have ok := ok.2 c21
                  refine lv_iconst (v := 1) hx hb dX5_code_54 (by decide) ?_
                  refine lv_goto (tgt := 79) hx hb dX5_code_55 (by decide) ?_
                  refine lv_istore (lv' := [(5, .int 1), (0, .ref (ad 75)), (1, .int x1), (2, .int x2), (3, .int x3), (4, .int x4)]) hx hb dX5_code_79 hl (by decide) rfl (fun ls hl => ?_)
                  refine lv_iload hx hb dX5_code_81 (lv_at hl 0 rfl) ?_
                  refine lv_if_eq (tgt := 101) hx hb dX5_code_83 (by decide) (fun c23 => absurd c23 (by decide)) (fun c23 => ?_)
                  refine lv_iload_n hx hb dX5_code_86 rfl (lv_at hl 3 rfl) ?_
                  refine q_callp (va_runS (As := [.int x2]) (rest := []) ⟨hx, hb, hml, hown, hts⟩ (c_X_usesB l D cs ad hi I x2) (va_cwS 1 hts (gS k_341 k_342 k_6 k_343) rfl rfl rfl (by decide +kernel) ⟨Nat.le_of_ble_eq_true rfl, Nat.le_of_ble_eq_true rfl⟩) (q_preS hK hP) rfl rfl hl.1 rfl (lv_room (Nat.le_of_ble_eq_true rfl)) dX5_code_87 ⟨Nat.zero_le _, Nat.zero_le _⟩) hS (fun _ h => h) (fun H locs hP hS => ?_)
                  refine lv_if_eq (tgt := 103) hx hb dX5_code_90 (by decide) (fun c24 => ?_) (fun c24 => ?_)
                  · have ok := ok.1 c24
                    refine lv_bipush (v := 16) hx hb dX5_code_103 (by decide) ?_
                    refine lv_iload_n hx hb dX5_code_105 rfl (lv_at hl 2 rfl) ?_
                    refine lv_imul hx hb dX5_code_106 ?_
                    refine lv_aload_n hx hb dX5_code_107 rfl (lv_at hl 1 rfl) ?_
                    refine va_get (D := D) (ci := 5) (v := .ref (ad 76)) (C := RX5) (T := TX5) (N := 26) hx hb hts inX5 hown hK hP 75 (mq_X isO_75) rfl 0 (by decide) (hts _ k_275) (fun _ h9 => h9) rfl dX5_code_108 ?_
                    refine lv_iload_n hx hb dX5_code_111 rfl (lv_at hl 2 rfl) ?_
                    refine va_iald hx hb hK hP 76 0 (mq_A iA_76) rfl g2 dX5_code_112 ?_
                    refine lv_iadd hx hb dX5_code_113 ?_
                    refine lv_istore (lv' := [(6, .int ((16 * x1) + (I 76 x1.toNatClampNeg))), (5, .int 1), (0, .ref (ad 75)), (1, .int x1), (2, .int x2), (3, .int x3), (4, .int x4)]) hx hb dX5_code_114 hl (by decide) rfl (fun ls hl => ?_)
                    refine lv_aload_n hx hb dX5_code_116 rfl (lv_at hl 2 rfl) ?_
                    refine va_get (D := D) (ci := 5) (v := .ref (ad 77)) (C := RX5) (T := TX5) (N := 26) hx hb hts inX5 hown hK hP 75 (mq_X isO_75) rfl 1 (by decide) (hts _ k_276) (fun _ h9 => h9) rfl dX5_code_117 ?_
                    refine lv_iload hx hb dX5_code_120 (lv_at hl 0 rfl) ?_
                    refine lv_iload_n hx hb dX5_code_122 rfl (lv_at hl 4 rfl) ?_
                    have g25 := ok
                    refine va_iast hx hb hK hP (mD hi) hS 77 0 (mq_A iA_77) rfl g25 dX5_code_123 (fun H locs hP _ hS => ?_)
                    have hP := ms_A iA_77 hP
                    have hP : va_P D vwCl (mw 97 ad (gs cs ad (m_X_code_1 I x1 x2 x3 x4))) H := hP
                    refine lv_aload_n hx hb dX5_code_124 rfl (lv_at hl 2 rfl) ?_
                    refine va_get (D := D) (ci := 5) (v := .ref (ad 78)) (C := RX5) (T := TX5) (N := 26) hx hb hts inX5 hown hK hP 75 (mq_X isO_75) rfl 2 (by decide) (hts _ k_277) (fun _ h9 => h9) rfl dX5_code_125 ?_
                    refine lv_iload hx hb dX5_code_128 (lv_at hl 0 rfl) ?_
                    refine lv_iload_n hx hb dX5_code_130 rfl (lv_at hl 5 rfl) ?_
                    refine va_iast hx hb hK hP (mD hi) hS 78 0 (mq_A iA_78) rfl g25 dX5_code_131 (fun H locs hP _ hS => ?_)
                    have hP := ms_A iA_78 hP
                    have hP : va_P D vwCl (mw 97 ad (gs cs ad (m_X_code_2 I x1 x2 x3 x4))) H := hP
                    refine lv_aload_n hx hb dX5_code_132 rfl (lv_at hl 2 rfl) ?_
                    refine va_get (D := D) (ci := 5) (v := .ref (ad 79)) (C := RX5) (T := TX5) (N := 26) hx hb hts inX5 hown hK hP 75 (mq_X isO_75) rfl 3 (by decide) (hts _ k_278) (fun _ h9 => h9) rfl dX5_code_133 ?_
                    refine lv_iload hx hb dX5_code_136 (lv_at hl 0 rfl) ?_
                    refine lv_iload hx hb dX5_code_138 (lv_at hl 6 rfl) ?_
                    refine va_iast hx hb hK hP (mD hi) hS 79 0 (mq_A iA_79) rfl g25 dX5_code_140 (fun H locs hP _ hS => ?_)
                    have hP := ms_A iA_79 hP
                    have hP : va_P D vwCl (mw 97 ad (gs cs ad (m_X_code_3 I x1 x2 x3 x4))) H := hP
                    refine lv_aload_n hx hb dX5_code_141 rfl (lv_at hl 2 rfl) ?_
                    refine va_get (D := D) (ci := 5) (v := .ref (ad 76)) (C := RX5) (T := TX5) (N := 26) hx hb hts inX5 hown hK hP 75 (mq_X isO_75) rfl 0 (by decide) (hts _ k_275) (fun _ h9 => h9) rfl dX5_code_142 ?_
                    refine lv_iload_n hx hb dX5_code_145 rfl (lv_at hl 3 rfl) ?_
                    refine lv_dup2_11 hx hb dX5_code_146 rfl rfl ?_
                    refine va_iald hx hb hK hP 76 0 (mq_A iA_76) rfl g2 dX5_code_147 ?_
                    refine lv_iconst (v := 1) hx hb dX5_code_148 (by decide) ?_
                    refine lv_iadd hx hb dX5_code_149 ?_
                    refine va_iast hx hb hK hP (mD hi) hS 76 0 (mq_A iA_76) rfl g2 dX5_code_150 (fun H locs hP _ hS => ?_)
                    have hP := ms_A iA_76 hP
                    have hP : va_P D vwCl (mw 97 ad (gs cs ad (m_X_code_4 I x1 x2 x3 x4))) H := hP
                    refine lv_iconst (v := 1) hx hb dX5_code_151 (by decide) ?_
                    exact q_zret hx hb hr hlocks dX5_code_152 hP hS rfl (by rw [f_X_code, if_neg c1, if_pos c3, if_neg c4, if_neg c5, if_pos c6, if_pos c7, if_neg c19, if_neg c21, if_pos c24])
                  · have ok := ok.2 c24
                    refine lv_iload hx hb dX5_code_93 (lv_at hl 5 rfl) ?_
                    refine q_callp (va_runS (As := [.int x4]) (rest := []) ⟨hx, hb, hml, hown, hts⟩ (c_X_isRegister l D cs ad hi I x4) (va_cwS 1 hts (gS k_338 k_339 k_6 k_340) rfl rfl rfl (by decide +kernel) ⟨Nat.le_of_ble_eq_true rfl, Nat.le_of_ble_eq_true rfl⟩) (q_preS hK hP) rfl rfl hl.1 rfl (lv_room (Nat.le_of_ble_eq_true rfl)) dX5_code_95 ⟨Nat.zero_le _, Nat.zero_le _⟩) hS (fun _ h => h) (fun H locs hP hS => ?_)
                    refine lv_if_ne (tgt := 103) hx hb dX5_code_98 (by decide) (fun c26 => ?_) (fun c26 => ?_)
                    · have ok := ok.2 c26
                      refine lv_bipush (v := 16) hx hb dX5_code_103 (by decide) ?_
                      refine lv_iload_n hx hb dX5_code_105 rfl (lv_at hl 2 rfl) ?_
                      refine lv_imul hx hb dX5_code_106 ?_
                      refine lv_aload_n hx hb dX5_code_107 rfl (lv_at hl 1 rfl) ?_
                      refine va_get (D := D) (ci := 5) (v := .ref (ad 76)) (C := RX5) (T := TX5) (N := 26) hx hb hts inX5 hown hK hP 75 (mq_X isO_75) rfl 0 (by decide) (hts _ k_275) (fun _ h9 => h9) rfl dX5_code_108 ?_
                      refine lv_iload_n hx hb dX5_code_111 rfl (lv_at hl 2 rfl) ?_
                      refine va_iald hx hb hK hP 76 0 (mq_A iA_76) rfl g2 dX5_code_112 ?_
                      refine lv_iadd hx hb dX5_code_113 ?_
                      refine lv_istore (lv' := [(6, .int ((16 * x1) + (I 76 x1.toNatClampNeg))), (5, .int 1), (0, .ref (ad 75)), (1, .int x1), (2, .int x2), (3, .int x3), (4, .int x4)]) hx hb dX5_code_114 hl (by decide) rfl (fun ls hl => ?_)
                      refine lv_aload_n hx hb dX5_code_116 rfl (lv_at hl 2 rfl) ?_
                      refine va_get (D := D) (ci := 5) (v := .ref (ad 77)) (C := RX5) (T := TX5) (N := 26) hx hb hts inX5 hown hK hP 75 (mq_X isO_75) rfl 1 (by decide) (hts _ k_276) (fun _ h9 => h9) rfl dX5_code_117 ?_
                      refine lv_iload hx hb dX5_code_120 (lv_at hl 0 rfl) ?_
                      refine lv_iload_n hx hb dX5_code_122 rfl (lv_at hl 4 rfl) ?_
                      have g27 := ok
                      refine va_iast hx hb hK hP (mD hi) hS 77 0 (mq_A iA_77) rfl g27 dX5_code_123 (fun H locs hP _ hS => ?_)
                      have hP := ms_A iA_77 hP
                      have hP : va_P D vwCl (mw 97 ad (gs cs ad (m_X_code_1 I x1 x2 x3 x4))) H := hP
                      refine lv_aload_n hx hb dX5_code_124 rfl (lv_at hl 2 rfl) ?_
                      refine va_get (D := D) (ci := 5) (v := .ref (ad 78)) (C := RX5) (T := TX5) (N := 26) hx hb hts inX5 hown hK hP 75 (mq_X isO_75) rfl 2 (by decide) (hts _ k_277) (fun _ h9 => h9) rfl dX5_code_125 ?_
                      refine lv_iload hx hb dX5_code_128 (lv_at hl 0 rfl) ?_
                      refine lv_iload_n hx hb dX5_code_130 rfl (lv_at hl 5 rfl) ?_
                      refine va_iast hx hb hK hP (mD hi) hS 78 0 (mq_A iA_78) rfl g27 dX5_code_131 (fun H locs hP _ hS => ?_)
                      have hP := ms_A iA_78 hP
                      have hP : va_P D vwCl (mw 97 ad (gs cs ad (m_X_code_2 I x1 x2 x3 x4))) H := hP
                      refine lv_aload_n hx hb dX5_code_132 rfl (lv_at hl 2 rfl) ?_
                      refine va_get (D := D) (ci := 5) (v := .ref (ad 79)) (C := RX5) (T := TX5) (N := 26) hx hb hts inX5 hown hK hP 75 (mq_X isO_75) rfl 3 (by decide) (hts _ k_278) (fun _ h9 => h9) rfl dX5_code_133 ?_
                      refine lv_iload hx hb dX5_code_136 (lv_at hl 0 rfl) ?_
                      refine lv_iload hx hb dX5_code_138 (lv_at hl 6 rfl) ?_
                      refine va_iast hx hb hK hP (mD hi) hS 79 0 (mq_A iA_79) rfl g27 dX5_code_140 (fun H locs hP _ hS => ?_)
                      have hP := ms_A iA_79 hP
                      have hP : va_P D vwCl (mw 97 ad (gs cs ad (m_X_code_3 I x1 x2 x3 x4))) H := hP
                      refine lv_aload_n hx hb dX5_code_141 rfl (lv_at hl 2 rfl) ?_
                      refine va_get (D := D) (ci := 5) (v := .ref (ad 76)) (C := RX5) (T := TX5) (N := 26) hx hb hts inX5 hown hK hP 75 (mq_X isO_75) rfl 0 (by decide) (hts _ k_275) (fun _ h9 => h9) rfl dX5_code_142 ?_
                      refine lv_iload_n hx hb dX5_code_145 rfl (lv_at hl 3 rfl) ?_
                      refine lv_dup2_11 hx hb dX5_code_146 rfl rfl ?_
                      refine va_iald hx hb hK hP 76 0 (mq_A iA_76) rfl g2 dX5_code_147 ?_
                      refine lv_iconst (v := 1) hx hb dX5_code_148 (by decide) ?_
                      refine lv_iadd hx hb dX5_code_149 ?_
                      refine va_iast hx hb hK hP (mD hi) hS 76 0 (mq_A iA_76) rfl g2 dX5_code_150 (fun H locs hP _ hS => ?_)
                      have hP := ms_A iA_76 hP
                      have hP : va_P D vwCl (mw 97 ad (gs cs ad (m_X_code_4 I x1 x2 x3 x4))) H := hP
                      refine lv_iconst (v := 1) hx hb dX5_code_151 (by decide) ?_
                      exact q_zret hx hb hr hlocks dX5_code_152 hP hS rfl (by rw [f_X_code, if_neg c1, if_pos c3, if_neg c4, if_neg c5, if_pos c6, if_pos c7, if_neg c19, if_neg c21, if_neg c24, if_neg c26])
                    · have ok := ok.1 c26
                      refine lv_iconst (v := 0) hx hb dX5_code_101 (by decide) ?_
                      exact q_zret hx hb hr hlocks dX5_code_102 hP hS rfl (by rw [f_X_code, if_neg c1, if_pos c3, if_neg c4, if_neg c5, if_pos c6, if_pos c7, if_neg c19, if_neg c21, if_neg c24, if_pos c26])
          · have ok := ok.2 c6
            refine lv_iconst (v := 0) hx hb dX5_code_37 (by decide) ?_
            exact q_zret hx hb hr hlocks dX5_code_38 hP hS rfl (by rw [f_X_code, if_neg c1, if_pos c3, if_neg c4, if_neg c5, if_neg c6])

def m_S_copyFrom_1 (I : Mm) (k k2 : Nat) : Mm := u1 I (k + 1) (va_cpy (I (k2 + 1)) (I (k + 1)) ((0 : Int32).toNatClampNeg) ((0 : Int32).toNatClampNeg) ((4 : Int32).toNatClampNeg))
def m_S_copyFrom_2 (I : Mm) (k k2 : Nat) : Mm := u1 (m_S_copyFrom_1 I k k2) (k + 2) (va_cpy ((m_S_copyFrom_1 I k k2) (k2 + 2)) ((m_S_copyFrom_1 I k k2) (k + 2)) ((0 : Int32).toNatClampNeg) ((0 : Int32).toNatClampNeg) ((3 : Int32).toNatClampNeg))
def m_S_copyFrom_3 (I : Mm) (k k2 : Nat) : Mm := u2 (m_S_copyFrom_2 I k k2) k 0 ((m_S_copyFrom_2 I k k2) k2 0)
def m_S_copyFrom_4 (I : Mm) (k k2 : Nat) : Mm := u2 (m_S_copyFrom_3 I k k2) k 1 ((m_S_copyFrom_3 I k k2) k2 1)
def m_S_copyFrom_5 (I : Mm) (k k2 : Nat) : Mm := u2 (m_S_copyFrom_4 I k k2) k 2 ((m_S_copyFrom_4 I k k2) k2 2)
def m_S_copyFrom_6 (I : Mm) (k k2 : Nat) : Mm := u2 (m_S_copyFrom_5 I k k2) k 3 ((m_S_copyFrom_5 I k k2) k2 3)
def f_S_copyFrom (I : Mm) (k k2 : Nat) : Mm := ((m_S_copyFrom_6 I k k2))
set_option maxHeartbeats 4000000 in
set_option maxRecDepth 100000 in
theorem c_S_copyFrom (l : Launch) (D : va_G) (cs : Nat → ClassId) (ad : Nat → Nat) (hi : mi ad) {k k2 : Nat} (h0 : isS k) (h2 : isS k2) (I : Mm) : MC l yX3_copyFrom wX3_copyFrom { frames := 1, cells := 0, slots := 0, locals := 60 } D cs ad [.ref (ad k), .ref (ad k2)] I none (f_S_copyFrom I k k2) := by
  refine q_enter (cc := cX3_copyFrom) (maxL := 2) (ret := none) (by decide +kernel) rfl (Nat.le_of_ble_eq_true rfl) ?_
  intro p e s m below meth c ls hx hb hr hml hown hts hlocks hK hP hS hl
  have hown : s.vm.findClass RX3 = some m.cls := hown
  have hts : ∀ w ∈ gtbl, w.before _ s = true := fun w h => hts w (List.mem_cons_of_mem _ h)
  have hl : lv_has ls 2 [(0, .ref (ad k)), (1, .ref (ad k2))] := hl
  refine lv_aload_n hx hb dX3_copyFrom_0 rfl (lv_at hl 1 rfl) ?_
  refine va_get (D := D) (ci := 3) (v := .ref (ad (k2 + 1))) (C := RX3) (T := TX3) (N := 6) hx hb hts inX3 hown hK hP k2 (mq_S h2.1) rfl 0 (by decide) (hts _ k_44) (fun _ h9 => h9) rfl dX3_copyFrom_1 ?_
  refine lv_iconst (v := 0) hx hb dX3_copyFrom_4 (by decide) ?_
  refine lv_aload_n hx hb dX3_copyFrom_5 rfl (lv_at hl 0 rfl) ?_
  refine va_get (D := D) (ci := 3) (v := .ref (ad (k + 1))) (C := RX3) (T := TX3) (N := 6) hx hb hts inX3 hown hK hP k (mq_S h0.1) rfl 0 (by decide) (hts _ k_44) (fun _ h9 => h9) rfl dX3_copyFrom_6 ?_
  refine lv_iconst (v := 0) hx hb dX3_copyFrom_9 (by decide) ?_
  refine lv_iconst (v := 4) hx hb dX3_copyFrom_10 (by decide) ?_
  refine va_copyi hx hb (by rw [hml]; exact hl.1.symm) hown (hts _ k_215) (hts _ k_217) (hts _ k_216) (hts _ k_8) hK hP (mD hi) hS (k2 + 1) (k + 1) 0 0 (mq_A h2.2.1) (mq_A h0.2.1) rfl rfl rfl (by decide) (by decide) (by decide) (by decide) (by decide) (fun _ _ => rfl) (Nat.le_of_ble_eq_true rfl) (Nat.le_of_ble_eq_true rfl) dX3_copyFrom_11 (fun H locs hP _ hS => ?_)
  have hP := ms_Ac h0.2.1 hP
  have hP : va_P D vwCl (mw 97 ad (gs cs ad (m_S_copyFrom_1 I k k2))) H := hP
  refine lv_aload_n hx hb dX3_copyFrom_14 rfl (lv_at hl 1 rfl) ?_
  refine va_get (D := D) (ci := 3) (v := .ref (ad (k2 + 2))) (C := RX3) (T := TX3) (N := 6) hx hb hts inX3 hown hK hP k2 (mq_S h2.1) rfl 1 (by decide) (hts _ k_46) (fun _ h9 => h9) rfl dX3_copyFrom_15 ?_
  refine lv_iconst (v := 0) hx hb dX3_copyFrom_18 (by decide) ?_
  refine lv_aload_n hx hb dX3_copyFrom_19 rfl (lv_at hl 0 rfl) ?_
  refine va_get (D := D) (ci := 3) (v := .ref (ad (k + 2))) (C := RX3) (T := TX3) (N := 6) hx hb hts inX3 hown hK hP k (mq_S h0.1) rfl 1 (by decide) (hts _ k_46) (fun _ h9 => h9) rfl dX3_copyFrom_20 ?_
  refine lv_iconst (v := 0) hx hb dX3_copyFrom_23 (by decide) ?_
  refine lv_iconst (v := 3) hx hb dX3_copyFrom_24 (by decide) ?_
  refine va_copyi hx hb (by rw [hml]; exact hl.1.symm) hown (hts _ k_215) (hts _ k_217) (hts _ k_216) (hts _ k_8) hK hP (mD hi) hS (k2 + 2) (k + 2) 0 0 (mq_A h2.2.2) (mq_A h0.2.2) rfl rfl rfl (by decide) (by decide) (by decide) (by decide) (by decide) (fun _ _ => rfl) (Nat.le_of_ble_eq_true rfl) (Nat.le_of_ble_eq_true rfl) dX3_copyFrom_25 (fun H locs hP _ hS => ?_)
  have hP := ms_Ac h0.2.2 hP
  have hP : va_P D vwCl (mw 97 ad (gs cs ad (m_S_copyFrom_2 I k k2))) H := hP
  refine lv_aload_n hx hb dX3_copyFrom_28 rfl (lv_at hl 0 rfl) ?_
  refine lv_aload_n hx hb dX3_copyFrom_29 rfl (lv_at hl 1 rfl) ?_
  refine va_get (D := D) (ci := 3) (v := .int ((m_S_copyFrom_2 I k k2) k2 0)) (C := RX3) (T := TX3) (N := 6) hx hb hts inX3 hown hK hP k2 (mq_S h2.1) rfl 2 (by decide) (hts _ k_48) (fun _ h9 => h9) rfl dX3_copyFrom_30 ?_
  refine va_put (D := D) (ci := 3) (v := .int ((m_S_copyFrom_2 I k k2) k2 0)) (ty := .int) (C := RX3) (T := TX3) (N := 6) hx hb hts inX3 tyX3 tyX3_ok nmX3 hown hK hP (mD hi) hS k (mq_S h0.1) rfl 2 (by decide) (hts _ k_48) (fun _ h9 => h9) rfl (by decide +kernel) rfl rfl (Nat.le_of_ble_eq_true rfl) dX3_copyFrom_33 (fun H locs hP _ hS => ?_)
  have hP := ms_S0 h0.1 hP
  have hP : va_P D vwCl (mw 97 ad (gs cs ad (m_S_copyFrom_3 I k k2))) H := hP
  refine lv_aload_n hx hb dX3_copyFrom_36 rfl (lv_at hl 0 rfl) ?_
  refine lv_aload_n hx hb dX3_copyFrom_37 rfl (lv_at hl 1 rfl) ?_
  refine va_get (D := D) (ci := 3) (v := .int ((m_S_copyFrom_3 I k k2) k2 1)) (C := RX3) (T := TX3) (N := 6) hx hb hts inX3 hown hK hP k2 (mq_S h2.1) rfl 3 (by decide) (hts _ k_50) (fun _ h9 => h9) rfl dX3_copyFrom_38 ?_
  refine va_put (D := D) (ci := 3) (v := .int ((m_S_copyFrom_3 I k k2) k2 1)) (ty := .int) (C := RX3) (T := TX3) (N := 6) hx hb hts inX3 tyX3 tyX3_ok nmX3 hown hK hP (mD hi) hS k (mq_S h0.1) rfl 3 (by decide) (hts _ k_50) (fun _ h9 => h9) rfl (by decide +kernel) rfl rfl (Nat.le_of_ble_eq_true rfl) dX3_copyFrom_41 (fun H locs hP _ hS => ?_)
  have hP := ms_S1 h0.1 hP
  have hP : va_P D vwCl (mw 97 ad (gs cs ad (m_S_copyFrom_4 I k k2))) H := hP
  refine lv_aload_n hx hb dX3_copyFrom_44 rfl (lv_at hl 0 rfl) ?_
  refine lv_aload_n hx hb dX3_copyFrom_45 rfl (lv_at hl 1 rfl) ?_
  refine va_get (D := D) (ci := 3) (v := .int ((m_S_copyFrom_4 I k k2) k2 2)) (C := RX3) (T := TX3) (N := 6) hx hb hts inX3 hown hK hP k2 (mq_S h2.1) rfl 4 (by decide) (hts _ k_52) (fun _ h9 => h9) rfl dX3_copyFrom_46 ?_
  refine va_put (D := D) (ci := 3) (v := .int ((m_S_copyFrom_4 I k k2) k2 2)) (ty := .int) (C := RX3) (T := TX3) (N := 6) hx hb hts inX3 tyX3 tyX3_ok nmX3 hown hK hP (mD hi) hS k (mq_S h0.1) rfl 4 (by decide) (hts _ k_52) (fun _ h9 => h9) rfl (by decide +kernel) rfl rfl (Nat.le_of_ble_eq_true rfl) dX3_copyFrom_49 (fun H locs hP _ hS => ?_)
  have hP := ms_S2 h0.1 hP
  have hP : va_P D vwCl (mw 97 ad (gs cs ad (m_S_copyFrom_5 I k k2))) H := hP
  refine lv_aload_n hx hb dX3_copyFrom_52 rfl (lv_at hl 0 rfl) ?_
  refine lv_aload_n hx hb dX3_copyFrom_53 rfl (lv_at hl 1 rfl) ?_
  refine va_get (D := D) (ci := 3) (v := .int ((m_S_copyFrom_5 I k k2) k2 3)) (C := RX3) (T := TX3) (N := 6) hx hb hts inX3 hown hK hP k2 (mq_S h2.1) rfl 5 (by decide) (hts _ k_54) (fun _ h9 => h9) rfl dX3_copyFrom_54 ?_
  refine va_put (D := D) (ci := 3) (v := .int ((m_S_copyFrom_5 I k k2) k2 3)) (ty := .int) (C := RX3) (T := TX3) (N := 6) hx hb hts inX3 tyX3 tyX3_ok nmX3 hown hK hP (mD hi) hS k (mq_S h0.1) rfl 5 (by decide) (hts _ k_54) (fun _ h9 => h9) rfl (by decide +kernel) rfl rfl (Nat.le_of_ble_eq_true rfl) dX3_copyFrom_57 (fun H locs hP _ hS => ?_)
  have hP := ms_S3 h0.1 hP
  have hP : va_P D vwCl (mw 97 ad (gs cs ad (m_S_copyFrom_6 I k k2))) H := hP
  exact q_vret hx hb hr hlocks dX3_copyFrom_60 hP hS rfl
def f_P_isFull (I : Mm) (k : Nat) : Int32 := (if (I k 0) < 16 then 0 else 1)
theorem z_P_isFull (I : Mm) (k : Nat) : narrow .boolean (.int (f_P_isFull I k)) = .int (f_P_isFull I k) := by
  unfold f_P_isFull
  (repeat' split) <;> first | (with_reducible exact nbp0) | (with_reducible exact nbp1)
set_option maxHeartbeats 4000000 in
set_option maxRecDepth 100000 in
theorem c_P_isFull (l : Launch) (D : va_G) (cs : Nat → ClassId) (ad : Nat → Nat) (hi : mi ad) {k : Nat} (h0 : isP k) (I : Mm) : MC l yX2_isFull wX2_isFull { frames := 0, cells := 0, slots := 0, locals := 0 } D cs ad [.ref (ad k)] I (some (.int (f_P_isFull I k))) I := by
  refine q_enter (cc := cX2_isFull) (maxL := 1) (ret := (some .boolean)) (by decide +kernel) rfl (Nat.le_of_ble_eq_true rfl) ?_
  intro p e s m below meth c ls hx hb hr hml hown hts hlocks hK hP hS hl
  have hown : s.vm.findClass RX2 = some m.cls := hown
  have hts : ∀ w ∈ gtbl, w.before _ s = true := fun w h => hts w (List.mem_cons_of_mem _ h)
  have hl : lv_has ls 1 [(0, .ref (ad k))] := hl
  refine lv_aload_n hx hb dX2_isFull_0 rfl (lv_at hl 0 rfl) ?_
  refine va_get (D := D) (ci := 2) (v := .int (I k 0)) (C := RX2) (T := TX2) (N := 4) hx hb hts inX2 hown hK hP k (mq_P h0.1) rfl 3 (by decide) (hts _ k_33) (fun _ h9 => h9) rfl dX2_isFull_1 ?_
  refine lv_bipush (v := 16) hx hb dX2_isFull_4 (by decide) ?_
  refine lv_icmp_lt (tgt := 13) hx hb dX2_isFull_6 (by decide) (fun c1 => ?_) (fun c1 => ?_)
  · have c1 := c1
    refine lv_iconst (v := 0) hx hb dX2_isFull_13 (by decide) ?_
    exact q_zretP hx hb hr hlocks dX2_isFull_14 hP hS rfl (by rw [f_P_isFull, if_pos c1])
  · have c1 := c1
    refine lv_iconst (v := 1) hx hb dX2_isFull_9 (by decide) ?_
    refine lv_goto (tgt := 14) hx hb dX2_isFull_10 (by decide) ?_
    exact q_zretP hx hb hr hlocks dX2_isFull_14 hP hS rfl (by rw [f_P_isFull, if_neg c1])
def f_P_has (I : Mm) (k : Nat) (x1 : Int32) : Int32 := (if x1 < 0 then 0 else (if (I k 0) ≤ x1 then 0 else 1))
theorem z_P_has (I : Mm) (k : Nat) (x1 : Int32) : narrow .boolean (.int (f_P_has I k x1)) = .int (f_P_has I k x1) := by
  unfold f_P_has
  (repeat' split) <;> first | (with_reducible exact nbp0) | (with_reducible exact nbp1)
set_option maxHeartbeats 4000000 in
set_option maxRecDepth 100000 in
theorem c_P_has (l : Launch) (D : va_G) (cs : Nat → ClassId) (ad : Nat → Nat) (hi : mi ad) {k : Nat} (h0 : isP k) (I : Mm) (x1 : Int32) : MC l yX2_has wX2_has { frames := 0, cells := 0, slots := 0, locals := 0 } D cs ad [.ref (ad k), .int x1] I (some (.int (f_P_has I k x1))) I := by
  refine q_enter (cc := cX2_has) (maxL := 2) (ret := (some .boolean)) (by decide +kernel) rfl (Nat.le_of_ble_eq_true rfl) ?_
  intro p e s m below meth c ls hx hb hr hml hown hts hlocks hK hP hS hl
  have hown : s.vm.findClass RX2 = some m.cls := hown
  have hts : ∀ w ∈ gtbl, w.before _ s = true := fun w h => hts w (List.mem_cons_of_mem _ h)
  have hl : lv_has ls 2 [(0, .ref (ad k)), (1, .int x1)] := hl
  refine lv_iload_n hx hb dX2_has_0 rfl (lv_at hl 1 rfl) ?_
  refine lv_if_lt (tgt := 16) hx hb dX2_has_1 (by decide) (fun c1 => ?_) (fun c1 => ?_)
  · have c1 := c1
    refine lv_iconst (v := 0) hx hb dX2_has_16 (by decide) ?_
    exact q_zretP hx hb hr hlocks dX2_has_17 hP hS rfl (by rw [f_P_has, if_pos c1])
  · have c1 := c1
    refine lv_iload_n hx hb dX2_has_4 rfl (lv_at hl 1 rfl) ?_
    refine lv_aload_n hx hb dX2_has_5 rfl (lv_at hl 0 rfl) ?_
    refine va_get (D := D) (ci := 2) (v := .int (I k 0)) (C := RX2) (T := TX2) (N := 4) hx hb hts inX2 hown hK hP k (mq_P h0.1) rfl 3 (by decide) (hts _ k_33) (fun _ h9 => h9) rfl dX2_has_6 ?_
    refine lv_icmp_ge (tgt := 16) hx hb dX2_has_9 (by decide) (fun c2 => ?_) (fun c2 => ?_)
    · have c2 := c2
      refine lv_iconst (v := 0) hx hb dX2_has_16 (by decide) ?_
      exact q_zretP hx hb hr hlocks dX2_has_17 hP hS rfl (by rw [f_P_has, if_neg c1, if_pos c2])
    · have c2 := c2
      refine lv_iconst (v := 1) hx hb dX2_has_12 (by decide) ?_
      refine lv_goto (tgt := 17) hx hb dX2_has_13 (by decide) ?_
      exact q_zretP hx hb hr hlocks dX2_has_17 hP hS rfl (by rw [f_P_has, if_neg c1, if_neg c2])
def m_P_append_1 (I : Mm) (k : Nat) (x1 x2 x3 : Int32) : Mm := u2 I (k + 1) ((I k 0).toNatClampNeg) x1
def m_P_append_2 (I : Mm) (k : Nat) (x1 x2 x3 : Int32) : Mm := u2 (m_P_append_1 I k x1 x2 x3) (k + 2) (((m_P_append_1 I k x1 x2 x3) k 0).toNatClampNeg) x2
def m_P_append_3 (I : Mm) (k : Nat) (x1 x2 x3 : Int32) : Mm := u2 (m_P_append_2 I k x1 x2 x3) (k + 3) (((m_P_append_2 I k x1 x2 x3) k 0).toNatClampNeg) x3
def m_P_append_4 (I : Mm) (k : Nat) (x1 x2 x3 : Int32) : Mm := u2 (m_P_append_3 I k x1 x2 x3) k 0 (((m_P_append_3 I k x1 x2 x3) k 0) + 1)
def f_P_append (I : Mm) (k : Nat) (x1 x2 x3 : Int32) : Mm := ((m_P_append_4 I k x1 x2 x3))
def ok_P_append (I : Mm) (k : Nat) (x1 x2 x3 : Int32) : Prop := vp_in (I k 0) 16 ∧ (vp_in ((m_P_append_1 I k x1 x2 x3) k 0) 16 ∧ (vp_in ((m_P_append_2 I k x1 x2 x3) k 0) 16))
set_option maxHeartbeats 4000000 in
set_option maxRecDepth 100000 in
theorem c_P_append (l : Launch) (D : va_G) (cs : Nat → ClassId) (ad : Nat → Nat) (hi : mi ad) {k : Nat} (h0 : isP k) (I : Mm) (x1 x2 x3 : Int32) (ok : ok_P_append I k x1 x2 x3) : MC l yX2_append wX2_append { frames := 0, cells := 0, slots := 0, locals := 0 } D cs ad [.ref (ad k), .int x1, .int x2, .int x3] I none (f_P_append I k x1 x2 x3) := by
  unfold ok_P_append at ok
  refine q_enter (cc := cX2_append) (maxL := 4) (ret := none) (by decide +kernel) rfl (Nat.le_of_ble_eq_true rfl) ?_
  intro p e s m below meth c ls hx hb hr hml hown hts hlocks hK hP hS hl
  have hown : s.vm.findClass RX2 = some m.cls := hown
  have hts : ∀ w ∈ gtbl, w.before _ s = true := fun w h => hts w (List.mem_cons_of_mem _ h)
  have hl : lv_has ls 4 [(0, .ref (ad k)), (1, .int x1), (2, .int x2), (3, .int x3)] := hl
  refine lv_aload_n hx hb dX2_append_0 rfl (lv_at hl 0 rfl) ?_
  refine va_get (D := D) (ci := 2) (v := .ref (ad (k + 1))) (C := RX2) (T := TX2) (N := 4) hx hb hts inX2 hown hK hP k (mq_P h0.1) rfl 0 (by decide) (hts _ k_27) (fun _ h9 => h9) rfl dX2_append_1 ?_
  refine lv_aload_n hx hb dX2_append_4 rfl (lv_at hl 0 rfl) ?_
  refine va_get (D := D) (ci := 2) (v := .int (I k 0)) (C := RX2) (T := TX2) (N := 4) hx hb hts inX2 hown hK hP k (mq_P h0.1) rfl 3 (by decide) (hts _ k_33) (fun _ h9 => h9) rfl dX2_append_5 ?_
  refine lv_iload_n hx hb dX2_append_8 rfl (lv_at hl 1 rfl) ?_
  have g1 := ok.1
  have ok := ok.2
  refine va_iast hx hb hK hP (mD hi) hS (k + 1) 0 (mq_A h0.2.1) rfl g1 dX2_append_9 (fun H locs hP _ hS => ?_)
  have hP := ms_A h0.2.1 hP
  have hP : va_P D vwCl (mw 97 ad (gs cs ad (m_P_append_1 I k x1 x2 x3))) H := hP
  refine lv_aload_n hx hb dX2_append_10 rfl (lv_at hl 0 rfl) ?_
  refine va_get (D := D) (ci := 2) (v := .ref (ad (k + 2))) (C := RX2) (T := TX2) (N := 4) hx hb hts inX2 hown hK hP k (mq_P h0.1) rfl 1 (by decide) (hts _ k_29) (fun _ h9 => h9) rfl dX2_append_11 ?_
  refine lv_aload_n hx hb dX2_append_14 rfl (lv_at hl 0 rfl) ?_
  refine va_get (D := D) (ci := 2) (v := .int ((m_P_append_1 I k x1 x2 x3) k 0)) (C := RX2) (T := TX2) (N := 4) hx hb hts inX2 hown hK hP k (mq_P h0.1) rfl 3 (by decide) (hts _ k_33) (fun _ h9 => h9) rfl dX2_append_15 ?_
  refine lv_iload_n hx hb dX2_append_18 rfl (lv_at hl 2 rfl) ?_
  have g2 := ok.1
  have ok := ok.2
  refine va_iast hx hb hK hP (mD hi) hS (k + 2) 0 (mq_A h0.2.2.1) rfl g2 dX2_append_19 (fun H locs hP _ hS => ?_)
  have hP := ms_A h0.2.2.1 hP
  have hP : va_P D vwCl (mw 97 ad (gs cs ad (m_P_append_2 I k x1 x2 x3))) H := hP
  refine lv_aload_n hx hb dX2_append_20 rfl (lv_at hl 0 rfl) ?_
  refine va_get (D := D) (ci := 2) (v := .ref (ad (k + 3))) (C := RX2) (T := TX2) (N := 4) hx hb hts inX2 hown hK hP k (mq_P h0.1) rfl 2 (by decide) (hts _ k_31) (fun _ h9 => h9) rfl dX2_append_21 ?_
  refine lv_aload_n hx hb dX2_append_24 rfl (lv_at hl 0 rfl) ?_
  refine va_get (D := D) (ci := 2) (v := .int ((m_P_append_2 I k x1 x2 x3) k 0)) (C := RX2) (T := TX2) (N := 4) hx hb hts inX2 hown hK hP k (mq_P h0.1) rfl 3 (by decide) (hts _ k_33) (fun _ h9 => h9) rfl dX2_append_25 ?_
  refine lv_iload_n hx hb dX2_append_28 rfl (lv_at hl 3 rfl) ?_
  have g3 := ok
  refine va_iast hx hb hK hP (mD hi) hS (k + 3) 0 (mq_A h0.2.2.2) rfl g3 dX2_append_29 (fun H locs hP _ hS => ?_)
  have hP := ms_A h0.2.2.2 hP
  have hP : va_P D vwCl (mw 97 ad (gs cs ad (m_P_append_3 I k x1 x2 x3))) H := hP
  refine lv_aload_n hx hb dX2_append_30 rfl (lv_at hl 0 rfl) ?_
  refine lv_dup hx hb dX2_append_31 rfl ?_
  refine va_get (D := D) (ci := 2) (v := .int ((m_P_append_3 I k x1 x2 x3) k 0)) (C := RX2) (T := TX2) (N := 4) hx hb hts inX2 hown hK hP k (mq_P h0.1) rfl 3 (by decide) (hts _ k_33) (fun _ h9 => h9) rfl dX2_append_32 ?_
  refine lv_iconst (v := 1) hx hb dX2_append_35 (by decide) ?_
  refine lv_iadd hx hb dX2_append_36 ?_
  refine va_put (D := D) (ci := 2) (v := .int (((m_P_append_3 I k x1 x2 x3) k 0) + 1)) (ty := .int) (C := RX2) (T := TX2) (N := 4) hx hb hts inX2 tyX2 tyX2_ok nmX2 hown hK hP (mD hi) hS k (mq_P h0.1) rfl 3 (by decide) (hts _ k_33) (fun _ h9 => h9) rfl (by decide +kernel) rfl rfl (Nat.le_of_ble_eq_true rfl) dX2_append_37 (fun H locs hP _ hS => ?_)
  have hP := ms_P0 h0.1 hP
  have hP : va_P D vwCl (mw 97 ad (gs cs ad (m_P_append_4 I k x1 x2 x3))) H := hP
  exact q_vret hx hb hr hlocks dX2_append_40 hP hS rfl

def f_J_floorMod  (x1 x2 : Int32) : Int32 := (if 0 ≤ (x1 ^^^ x2) then (x1 - x1 / x2 * x2) else (if (x1 - x1 / x2 * x2) = 0 then (x1 - x1 / x2 * x2) else ((x1 - x1 / x2 * x2) + x2)))
def ok_J_floorMod  (x1 x2 : Int32) : Prop := ¬ x2 = 0
set_option maxHeartbeats 4000000 in
set_option maxRecDepth 100000 in
theorem c_J_floorMod (l : Launch) (D : va_G) (cs : Nat → ClassId) (ad : Nat → Nat) (hi : mi ad) (I : Mm) (x1 x2 : Int32) (ok : ok_J_floorMod x1 x2) : MC l yJ_floorMod wJ_floorMod { frames := 0, cells := 0, slots := 0, locals := 0 } D cs ad [.int x1, .int x2] I (some (.int (f_J_floorMod x1 x2))) I := by
  unfold ok_J_floorMod at ok
  refine q_enter (cc := cJ_floorMod) (maxL := 3) (ret := (some .int)) (by decide +kernel) rfl (Nat.le_of_ble_eq_true rfl) ?_
  intro p e s m below meth c ls hx hb hr hml hown hts hlocks hK hP hS hl
  have hown : s.vm.findClass RJ = some m.cls := hown
  have hts : ∀ w ∈ gtbl, w.before _ s = true := fun w h => hts w (List.mem_cons_of_mem _ h)
  have hl : lv_has ls 3 [(0, .int x1), (1, .int x2)] := hl
  refine lv_iload_n hx hb dJ_floorMod_0 rfl (lv_at hl 0 rfl) ?_
  refine lv_iload_n hx hb dJ_floorMod_1 rfl (lv_at hl 1 rfl) ?_
  have g1 := ok
  refine lv_irem hx hb dJ_floorMod_2 g1 ?_
  refine lv_istore_n (lv' := [(2, .int (x1 - x1 / x2 * x2)), (0, .int x1), (1, .int x2)]) hx hb dJ_floorMod_3 rfl hl (by decide) rfl (fun ls hl => ?_)
  refine lv_iload_n hx hb dJ_floorMod_4 rfl (lv_at hl 1 rfl) ?_
  refine lv_iload_n hx hb dJ_floorMod_5 rfl (lv_at hl 2 rfl) ?_
  refine lv_ixor hx hb dJ_floorMod_6 ?_
  refine lv_if_ge (tgt := 18) hx hb dJ_floorMod_7 (by decide) (fun c2 => ?_) (fun c2 => ?_)
  · have c2 := c2
    refine lv_iload_n hx hb dJ_floorMod_18 rfl (lv_at hl 0 rfl) ?_
    exact q_iretP hx hb hr hlocks dJ_floorMod_19 hP hS (by rw [f_J_floorMod, if_pos c2])
  · have c2 := c2
    refine lv_iload_n hx hb dJ_floorMod_10 rfl (lv_at hl 0 rfl) ?_
    refine lv_if_eq (tgt := 18) hx hb dJ_floorMod_11 (by decide) (fun c3 => ?_) (fun c3 => ?_)
    · have c3 := c3
      refine lv_iload_n hx hb dJ_floorMod_18 rfl (lv_at hl 0 rfl) ?_
      exact q_iretP hx hb hr hlocks dJ_floorMod_19 hP hS (by rw [f_J_floorMod, if_neg c2, if_pos c3])
    · have c3 := c3
      refine lv_iload_n hx hb dJ_floorMod_14 rfl (lv_at hl 0 rfl) ?_
      refine lv_iload_n hx hb dJ_floorMod_15 rfl (lv_at hl 2 rfl) ?_
      refine lv_iadd hx hb dJ_floorMod_16 ?_
      exact q_iretP hx hb hr hlocks dJ_floorMod_17 hP hS (by rw [f_J_floorMod, if_neg c2, if_neg c3])
def f_R_count (I : Mm) (r n : Nat) : Int32 := ((I r 1) - (I r 0))
set_option maxHeartbeats 4000000 in
set_option maxRecDepth 100000 in
theorem c_R_count (l : Launch) (D : va_G) (cs : Nat → ClassId) (ad : Nat → Nat) (hi : mi ad) {r n : Nat} (h0 : isR r n) (I : Mm) : MC l yX1_count wX1_count { frames := 0, cells := 0, slots := 0, locals := 0 } D cs ad [.ref (ad r)] I (some (.int (f_R_count I r n))) I := by
  refine q_enter (cc := cX1_count) (maxL := 1) (ret := (some .int)) (by decide +kernel) rfl (Nat.le_of_ble_eq_true rfl) ?_
  intro p e s m below meth c ls hx hb hr hml hown hts hlocks hK hP hS hl
  have hown : s.vm.findClass RX1 = some m.cls := hown
  have hts : ∀ w ∈ gtbl, w.before _ s = true := fun w h => hts w (List.mem_cons_of_mem _ h)
  have hl : lv_has ls 1 [(0, .ref (ad r))] := hl
  refine lv_aload_n hx hb dX1_count_0 rfl (lv_at hl 0 rfl) ?_
  refine va_get (D := D) (ci := 1) (v := .int (I r 1)) (C := RX1) (T := TX1) (N := 4) hx hb hts inX1 hown hK hP r (mq_R h0.1) rfl 3 (by decide) (hts _ k_72) (fun _ h9 => h9) rfl dX1_count_1 ?_
  refine lv_aload_n hx hb dX1_count_4 rfl (lv_at hl 0 rfl) ?_
  refine va_get (D := D) (ci := 1) (v := .int (I r 0)) (C := RX1) (T := TX1) (N := 4) hx hb hts inX1 hown hK hP r (mq_R h0.1) rfl 2 (by decide) (hts _ k_70) (fun _ h9 => h9) rfl dX1_count_5 ?_
  refine lv_isub hx hb dX1_count_8 ?_
  exact q_iretP hx hb hr hlocks dX1_count_9 hP hS rfl
def f_R_isFull (I : Mm) (r n : Nat) : Int32 := (if (f_R_count I r n) < (nI n) then 0 else 1)
theorem z_R_isFull (I : Mm) (r n : Nat) : narrow .boolean (.int (f_R_isFull I r n)) = .int (f_R_isFull I r n) := by
  unfold f_R_isFull
  (repeat' split) <;> first | (with_reducible exact nbp0) | (with_reducible exact nbp1)
set_option maxHeartbeats 4000000 in
set_option maxRecDepth 100000 in
theorem c_R_isFull (l : Launch) (D : va_G) (cs : Nat → ClassId) (ad : Nat → Nat) (hi : mi ad) {r n : Nat} (h0 : isR r n) (I : Mm) : MC l yX1_isFull wX1_isFull { frames := 1, cells := 0, slots := 0, locals := 20 } D cs ad [.ref (ad r)] I (some (.int (f_R_isFull I r n))) I := by
  refine q_enter (cc := cX1_isFull) (maxL := 1) (ret := (some .boolean)) (by decide +kernel) rfl (Nat.le_of_ble_eq_true rfl) ?_
  intro p e s m below meth c ls hx hb hr hml hown hts hlocks hK hP hS hl
  have hown : s.vm.findClass RX1 = some m.cls := hown
  have hts : ∀ w ∈ gtbl, w.before _ s = true := fun w h => hts w (List.mem_cons_of_mem _ h)
  have hl : lv_has ls 1 [(0, .ref (ad r))] := hl
  refine lv_aload_n hx hb dX1_isFull_0 rfl (lv_at hl 0 rfl) ?_
  refine q_callp (va_runV (As := []) (rest := []) ⟨hx, hb, hml, hown, hts⟩ (c_R_count l D cs ad hi h0 I) (cwV 0 hts (gV k_139 k_140 k_141 k_5 k_142) rfl rfl rfl (by decide +kernel) ⟨Nat.le_of_ble_eq_true rfl, Nat.le_of_ble_eq_true rfl⟩) (q_preV hK hP (va_recv hK hP (ci := 1) (q0 := r) rfl (mq_R h0.1))) rfl rfl hl.1 rfl (lv_room (Nat.le_of_ble_eq_true rfl)) dX1_isFull_1 ⟨Nat.zero_le _, Nat.zero_le _⟩) hS (fun _ h => h) (fun H locs hP hS => ?_)
  refine lv_aload_n hx hb dX1_isFull_4 rfl (lv_at hl 0 rfl) ?_
  refine va_get (D := D) (ci := 1) (v := .ref (ad (r + 1))) (C := RX1) (T := TX1) (N := 4) hx hb hts inX1 hown hK hP r (mq_R h0.1) rfl 0 (by decide) (hts _ k_68) (fun _ h9 => h9) rfl dX1_isFull_5 ?_
  refine va_alen (v := nI n) hx hb hK hP (r + 1) 0 (mq_A h0.2.1) rfl rfl dX1_isFull_8 ?_
  refine lv_icmp_lt (tgt := 16) hx hb dX1_isFull_9 (by decide) (fun c1 => ?_) (fun c1 => ?_)
  · have c1 := c1
    refine lv_iconst (v := 0) hx hb dX1_isFull_16 (by decide) ?_
    exact q_zretP hx hb hr hlocks dX1_isFull_17 hP hS rfl (by rw [f_R_isFull, if_pos c1])
  · have c1 := c1
    refine lv_iconst (v := 1) hx hb dX1_isFull_12 (by decide) ?_
    refine lv_goto (tgt := 17) hx hb dX1_isFull_13 (by decide) ?_
    exact q_zretP hx hb hr hlocks dX1_isFull_17 hP hS rfl (by rw [f_R_isFull, if_neg c1])
def f_R_has (I : Mm) (r n : Nat) (x1 : Int32) : Int32 := (if x1 ≤ (I r 0) then 0 else (if (I r 1) < x1 then 0 else 1))
theorem z_R_has (I : Mm) (r n : Nat) (x1 : Int32) : narrow .boolean (.int (f_R_has I r n x1)) = .int (f_R_has I r n x1) := by
  unfold f_R_has
  (repeat' split) <;> first | (with_reducible exact nbp0) | (with_reducible exact nbp1)
set_option maxHeartbeats 4000000 in
set_option maxRecDepth 100000 in
theorem c_R_has (l : Launch) (D : va_G) (cs : Nat → ClassId) (ad : Nat → Nat) (hi : mi ad) {r n : Nat} (h0 : isR r n) (I : Mm) (x1 : Int32) : MC l yX1_has wX1_has { frames := 0, cells := 0, slots := 0, locals := 0 } D cs ad [.ref (ad r), .int x1] I (some (.int (f_R_has I r n x1))) I := by
  refine q_enter (cc := cX1_has) (maxL := 2) (ret := (some .boolean)) (by decide +kernel) rfl (Nat.le_of_ble_eq_true rfl) ?_
  intro p e s m below meth c ls hx hb hr hml hown hts hlocks hK hP hS hl
  have hown : s.vm.findClass RX1 = some m.cls := hown
  have hts : ∀ w ∈ gtbl, w.before _ s = true := fun w h => hts w (List.mem_cons_of_mem _ h)
  have hl : lv_has ls 2 [(0, .ref (ad r)), (1, .int x1)] := hl
  refine lv_iload_n hx hb dX1_has_0 rfl (lv_at hl 1 rfl) ?_
  refine lv_aload_n hx hb dX1_has_1 rfl (lv_at hl 0 rfl) ?_
  refine va_get (D := D) (ci := 1) (v := .int (I r 0)) (C := RX1) (T := TX1) (N := 4) hx hb hts inX1 hown hK hP r (mq_R h0.1) rfl 2 (by decide) (hts _ k_70) (fun _ h9 => h9) rfl dX1_has_2 ?_
  refine lv_icmp_le (tgt := 20) hx hb dX1_has_5 (by decide) (fun c1 => ?_) (fun c1 => ?_)
  · have c1 := c1
    refine lv_iconst (v := 0) hx hb dX1_has_20 (by decide) ?_
    exact q_zretP hx hb hr hlocks dX1_has_21 hP hS rfl (by rw [f_R_has, if_pos c1])
  · have c1 := c1
    refine lv_iload_n hx hb dX1_has_8 rfl (lv_at hl 1 rfl) ?_
    refine lv_aload_n hx hb dX1_has_9 rfl (lv_at hl 0 rfl) ?_
    refine va_get (D := D) (ci := 1) (v := .int (I r 1)) (C := RX1) (T := TX1) (N := 4) hx hb hts inX1 hown hK hP r (mq_R h0.1) rfl 3 (by decide) (hts _ k_72) (fun _ h9 => h9) rfl dX1_has_10 ?_
    refine lv_icmp_gt (tgt := 20) hx hb dX1_has_13 (by decide) (fun c2 => ?_) (fun c2 => ?_)
    · have c2 := c2
      refine lv_iconst (v := 0) hx hb dX1_has_20 (by decide) ?_
      exact q_zretP hx hb hr hlocks dX1_has_21 hP hS rfl (by rw [f_R_has, if_neg c1, if_pos c2])
    · have c2 := c2
      refine lv_iconst (v := 1) hx hb dX1_has_16 (by decide) ?_
      refine lv_goto (tgt := 21) hx hb dX1_has_17 (by decide) ?_
      exact q_zretP hx hb hr hlocks dX1_has_21 hP hS rfl (by rw [f_R_has, if_neg c1, if_neg c2])
def f_R_slot  (r n : Nat) (x1 : Int32) : Int32 := (f_J_floorMod x1 (nI n))
def ok_R_slot  (r n : Nat) (x1 : Int32) : Prop := ok_J_floorMod x1 (nI n)
set_option maxHeartbeats 4000000 in
set_option maxRecDepth 100000 in
theorem c_R_slot (l : Launch) (D : va_G) (cs : Nat → ClassId) (ad : Nat → Nat) (hi : mi ad) {r n : Nat} (h0 : isR r n) (I : Mm) (x1 : Int32) (ok : ok_R_slot r n x1) : MC l yX1_slot wX1_slot { frames := 1, cells := 0, slots := 0, locals := 22 } D cs ad [.ref (ad r), .int x1] I (some (.int (f_R_slot r n x1))) I := by
  unfold ok_R_slot at ok
  refine q_enter (cc := cX1_slot) (maxL := 2) (ret := (some .int)) (by decide +kernel) rfl (Nat.le_of_ble_eq_true rfl) ?_
  intro p e s m below meth c ls hx hb hr hml hown hts hlocks hK hP hS hl
  have hown : s.vm.findClass RX1 = some m.cls := hown
  have hts : ∀ w ∈ gtbl, w.before _ s = true := fun w h => hts w (List.mem_cons_of_mem _ h)
  have hl : lv_has ls 2 [(0, .ref (ad r)), (1, .int x1)] := hl
  refine lv_iload_n hx hb dX1_slot_0 rfl (lv_at hl 1 rfl) ?_
  refine lv_aload_n hx hb dX1_slot_1 rfl (lv_at hl 0 rfl) ?_
  refine va_get (D := D) (ci := 1) (v := .ref (ad (r + 1))) (C := RX1) (T := TX1) (N := 4) hx hb hts inX1 hown hK hP r (mq_R h0.1) rfl 0 (by decide) (hts _ k_68) (fun _ h9 => h9) rfl dX1_slot_2 ?_
  refine va_alen (v := nI n) hx hb hK hP (r + 1) 0 (mq_A h0.2.1) rfl rfl dX1_slot_5 ?_
  have g1 := ok
  refine q_callp (va_runS (As := [.int x1, .int (nI n)]) (rest := []) ⟨hx, hb, hml, hown, hts⟩ (c_J_floorMod l D cs ad hi I x1 (nI n) g1) (va_cwS 2 hts (gS k_150 k_151 k_7 k_152) rfl rfl rfl (by decide +kernel) ⟨Nat.le_of_ble_eq_true rfl, Nat.le_of_ble_eq_true rfl⟩) (q_preS hK hP) rfl rfl hl.1 rfl (lv_room (Nat.le_of_ble_eq_true rfl)) dX1_slot_6 ⟨Nat.zero_le _, Nat.zero_le _⟩) hS (fun _ h => h) (fun H locs hP hS => ?_)
  exact q_iretP hx hb hr hlocks dX1_slot_9 hP hS rfl
def f_R_valueAt (I : Mm) (r n : Nat) (x1 : Int32) : Int32 := (I (r + 1) ((f_R_slot r n x1).toNatClampNeg))
def ok_R_valueAt  (r n : Nat) (x1 : Int32) : Prop := ok_R_slot r n x1 ∧ (vp_in (f_R_slot r n x1) n)
set_option maxHeartbeats 4000000 in
set_option maxRecDepth 100000 in
theorem c_R_valueAt (l : Launch) (D : va_G) (cs : Nat → ClassId) (ad : Nat → Nat) (hi : mi ad) {r n : Nat} (h0 : isR r n) (I : Mm) (x1 : Int32) (ok : ok_R_valueAt r n x1) : MC l yX1_valueAt wX1_valueAt { frames := 2, cells := 0, slots := 0, locals := 43 } D cs ad [.ref (ad r), .int x1] I (some (.int (f_R_valueAt I r n x1))) I := by
  unfold ok_R_valueAt at ok
  refine q_enter (cc := cX1_valueAt) (maxL := 2) (ret := (some .int)) (by decide +kernel) rfl (Nat.le_of_ble_eq_true rfl) ?_
  intro p e s m below meth c ls hx hb hr hml hown hts hlocks hK hP hS hl
  have hown : s.vm.findClass RX1 = some m.cls := hown
  have hts : ∀ w ∈ gtbl, w.before _ s = true := fun w h => hts w (List.mem_cons_of_mem _ h)
  have hl : lv_has ls 2 [(0, .ref (ad r)), (1, .int x1)] := hl
  refine lv_aload_n hx hb dX1_valueAt_0 rfl (lv_at hl 0 rfl) ?_
  refine va_get (D := D) (ci := 1) (v := .ref (ad (r + 1))) (C := RX1) (T := TX1) (N := 4) hx hb hts inX1 hown hK hP r (mq_R h0.1) rfl 0 (by decide) (hts _ k_68) (fun _ h9 => h9) rfl dX1_valueAt_1 ?_
  refine lv_aload_n hx hb dX1_valueAt_4 rfl (lv_at hl 0 rfl) ?_
  refine lv_iload_n hx hb dX1_valueAt_5 rfl (lv_at hl 1 rfl) ?_
  have g1 := ok.1
  have ok := ok.2
  refine q_callp (va_runV (As := [.int x1]) (rest := [.ref (ad (r + 1))]) ⟨hx, hb, hml, hown, hts⟩ (c_R_slot l D cs ad hi h0 I x1 g1) (cwV 1 hts (gV k_147 k_148 k_430 k_5 k_149) rfl rfl rfl (by decide +kernel) ⟨Nat.le_of_ble_eq_true rfl, Nat.le_of_ble_eq_true rfl⟩) (q_preV hK hP (va_recv hK hP (ci := 1) (q0 := r) rfl (mq_R h0.1))) rfl rfl hl.1 rfl (lv_room (Nat.le_of_ble_eq_true rfl)) dX1_valueAt_6 ⟨Nat.zero_le _, Nat.zero_le _⟩) hS (fun _ h => h) (fun H locs hP hS => ?_)
  have g2 := ok
  refine va_iald hx hb hK hP (r + 1) 0 (mq_A h0.2.1) rfl g2 dX1_valueAt_9 ?_
  exact q_iretP hx hb hr hlocks dX1_valueAt_10 hP hS rfl
def f_R_originAt (I : Mm) (r n : Nat) (x1 : Int32) : Int32 := (I (r + 2) ((f_R_slot r n x1).toNatClampNeg))
def ok_R_originAt  (r n : Nat) (x1 : Int32) : Prop := ok_R_slot r n x1 ∧ (vp_in (f_R_slot r n x1) n)
set_option maxHeartbeats 4000000 in
set_option maxRecDepth 100000 in
theorem c_R_originAt (l : Launch) (D : va_G) (cs : Nat → ClassId) (ad : Nat → Nat) (hi : mi ad) {r n : Nat} (h0 : isR r n) (I : Mm) (x1 : Int32) (ok : ok_R_originAt r n x1) : MC l yX1_originAt wX1_originAt { frames := 2, cells := 0, slots := 0, locals := 43 } D cs ad [.ref (ad r), .int x1] I (some (.int (f_R_originAt I r n x1))) I := by
  unfold ok_R_originAt at ok
  refine q_enter (cc := cX1_originAt) (maxL := 2) (ret := (some .int)) (by decide +kernel) rfl (Nat.le_of_ble_eq_true rfl) ?_
  intro p e s m below meth c ls hx hb hr hml hown hts hlocks hK hP hS hl
  have hown : s.vm.findClass RX1 = some m.cls := hown
  have hts : ∀ w ∈ gtbl, w.before _ s = true := fun w h => hts w (List.mem_cons_of_mem _ h)
  have hl : lv_has ls 2 [(0, .ref (ad r)), (1, .int x1)] := hl
  refine lv_aload_n hx hb dX1_originAt_0 rfl (lv_at hl 0 rfl) ?_
  refine va_get (D := D) (ci := 1) (v := .ref (ad (r + 2))) (C := RX1) (T := TX1) (N := 4) hx hb hts inX1 hown hK hP r (mq_R h0.1) rfl 1 (by decide) (hts _ k_69) (fun _ h9 => h9) rfl dX1_originAt_1 ?_
  refine lv_aload_n hx hb dX1_originAt_4 rfl (lv_at hl 0 rfl) ?_
  refine lv_iload_n hx hb dX1_originAt_5 rfl (lv_at hl 1 rfl) ?_
  have g1 := ok.1
  have ok := ok.2
  refine q_callp (va_runV (As := [.int x1]) (rest := [.ref (ad (r + 2))]) ⟨hx, hb, hml, hown, hts⟩ (c_R_slot l D cs ad hi h0 I x1 g1) (cwV 1 hts (gV k_147 k_148 k_430 k_5 k_149) rfl rfl rfl (by decide +kernel) ⟨Nat.le_of_ble_eq_true rfl, Nat.le_of_ble_eq_true rfl⟩) (q_preV hK hP (va_recv hK hP (ci := 1) (q0 := r) rfl (mq_R h0.1))) rfl rfl hl.1 rfl (lv_room (Nat.le_of_ble_eq_true rfl)) dX1_originAt_6 ⟨Nat.zero_le _, Nat.zero_le _⟩) hS (fun _ h => h) (fun H locs hP hS => ?_)
  have g2 := ok
  refine va_iald hx hb hK hP (r + 2) 0 (mq_A h0.2.2) rfl g2 dX1_originAt_9 ?_
  exact q_iretP hx hb hr hlocks dX1_originAt_10 hP hS rfl
def m_R_append_1 (I : Mm) (r n : Nat) (x1 x2 : Int32) : Mm := u2 I r 1 ((I r 1) + 1)
def m_R_append_2 (I : Mm) (r n : Nat) (x1 x2 : Int32) : Mm := u2 (m_R_append_1 I r n x1 x2) (r + 1) ((f_R_slot r n ((m_R_append_1 I r n x1 x2) r 1)).toNatClampNeg) x1
def m_R_append_3 (I : Mm) (r n : Nat) (x1 x2 : Int32) : Mm := u2 (m_R_append_2 I r n x1 x2) (r + 2) ((f_R_slot r n ((m_R_append_2 I r n x1 x2) r 1)).toNatClampNeg) x2
def f_R_append (I : Mm) (r n : Nat) (x1 x2 : Int32) : Int32 × Mm := ((m_R_append_3 I r n x1 x2) r 1, (m_R_append_3 I r n x1 x2))
def ok_R_append (I : Mm) (r n : Nat) (x1 x2 : Int32) : Prop := ok_R_slot r n ((m_R_append_1 I r n x1 x2) r 1) ∧ (vp_in (f_R_slot r n ((m_R_append_1 I r n x1 x2) r 1)) n ∧ (ok_R_slot r n ((m_R_append_2 I r n x1 x2) r 1) ∧ (vp_in (f_R_slot r n ((m_R_append_2 I r n x1 x2) r 1)) n)))
set_option maxHeartbeats 4000000 in
set_option maxRecDepth 100000 in
theorem c_R_append (l : Launch) (D : va_G) (cs : Nat → ClassId) (ad : Nat → Nat) (hi : mi ad) {r n : Nat} (h0 : isR r n) (I : Mm) (x1 x2 : Int32) (ok : ok_R_append I r n x1 x2) : MC l yX1_append wX1_append { frames := 2, cells := 0, slots := 0, locals := 43 } D cs ad [.ref (ad r), .int x1, .int x2] I (some (.int (f_R_append I r n x1 x2).1)) (f_R_append I r n x1 x2).2 := by
  unfold ok_R_append at ok
  refine q_enter (cc := cX1_append) (maxL := 3) (ret := (some .int)) (by decide +kernel) rfl (Nat.le_of_ble_eq_true rfl) ?_
  intro p e s m below meth c ls hx hb hr hml hown hts hlocks hK hP hS hl
  have hown : s.vm.findClass RX1 = some m.cls := hown
  have hts : ∀ w ∈ gtbl, w.before _ s = true := fun w h => hts w (List.mem_cons_of_mem _ h)
  have hl : lv_has ls 3 [(0, .ref (ad r)), (1, .int x1), (2, .int x2)] := hl
  refine lv_aload_n hx hb dX1_append_0 rfl (lv_at hl 0 rfl) ?_
  refine lv_dup hx hb dX1_append_1 rfl ?_
  refine va_get (D := D) (ci := 1) (v := .int (I r 1)) (C := RX1) (T := TX1) (N := 4) hx hb hts inX1 hown hK hP r (mq_R h0.1) rfl 3 (by decide) (hts _ k_72) (fun _ h9 => h9) rfl dX1_append_2 ?_
  refine lv_iconst (v := 1) hx hb dX1_append_5 (by decide) ?_
  refine lv_iadd hx hb dX1_append_6 ?_
  refine va_put (D := D) (ci := 1) (v := .int ((I r 1) + 1)) (ty := .int) (C := RX1) (T := TX1) (N := 4) hx hb hts inX1 tyX1 tyX1_ok nmX1 hown hK hP (mD hi) hS r (mq_R h0.1) rfl 3 (by decide) (hts _ k_72) (fun _ h9 => h9) rfl (by decide +kernel) rfl rfl (Nat.le_of_ble_eq_true rfl) dX1_append_7 (fun H locs hP _ hS => ?_)
  have hP := ms_R1 h0.1 hP
  have hP : va_P D vwCl (mw 97 ad (gs cs ad (m_R_append_1 I r n x1 x2))) H := hP
  refine lv_aload_n hx hb dX1_append_10 rfl (lv_at hl 0 rfl) ?_
  refine va_get (D := D) (ci := 1) (v := .ref (ad (r + 1))) (C := RX1) (T := TX1) (N := 4) hx hb hts inX1 hown hK hP r (mq_R h0.1) rfl 0 (by decide) (hts _ k_68) (fun _ h9 => h9) rfl dX1_append_11 ?_
  refine lv_aload_n hx hb dX1_append_14 rfl (lv_at hl 0 rfl) ?_
  refine lv_aload_n hx hb dX1_append_15 rfl (lv_at hl 0 rfl) ?_
  refine va_get (D := D) (ci := 1) (v := .int ((m_R_append_1 I r n x1 x2) r 1)) (C := RX1) (T := TX1) (N := 4) hx hb hts inX1 hown hK hP r (mq_R h0.1) rfl 3 (by decide) (hts _ k_72) (fun _ h9 => h9) rfl dX1_append_16 ?_
  have g1 := ok.1
  have ok := ok.2
  refine q_callp (va_runV (As := [.int ((m_R_append_1 I r n x1 x2) r 1)]) (rest := [.ref (ad (r + 1))]) ⟨hx, hb, hml, hown, hts⟩ (c_R_slot l D cs ad hi h0 (m_R_append_1 I r n x1 x2) ((m_R_append_1 I r n x1 x2) r 1) g1) (cwV 1 hts (gV k_147 k_148 k_430 k_5 k_149) rfl rfl rfl (by decide +kernel) ⟨Nat.le_of_ble_eq_true rfl, Nat.le_of_ble_eq_true rfl⟩) (q_preV hK hP (va_recv hK hP (ci := 1) (q0 := r) rfl (mq_R h0.1))) rfl rfl hl.1 rfl (lv_room (Nat.le_of_ble_eq_true rfl)) dX1_append_19 ⟨Nat.zero_le _, Nat.zero_le _⟩) hS (fun _ h => h) (fun H locs hP hS => ?_)
  refine lv_iload_n hx hb dX1_append_22 rfl (lv_at hl 1 rfl) ?_
  have g2 := ok.1
  have ok := ok.2
  refine va_iast hx hb hK hP (mD hi) hS (r + 1) 0 (mq_A h0.2.1) rfl g2 dX1_append_23 (fun H locs hP _ hS => ?_)
  have hP := ms_A h0.2.1 hP
  have hP : va_P D vwCl (mw 97 ad (gs cs ad (m_R_append_2 I r n x1 x2))) H := hP
  refine lv_aload_n hx hb dX1_append_24 rfl (lv_at hl 0 rfl) ?_
  refine va_get (D := D) (ci := 1) (v := .ref (ad (r + 2))) (C := RX1) (T := TX1) (N := 4) hx hb hts inX1 hown hK hP r (mq_R h0.1) rfl 1 (by decide) (hts _ k_69) (fun _ h9 => h9) rfl dX1_append_25 ?_
  refine lv_aload_n hx hb dX1_append_28 rfl (lv_at hl 0 rfl) ?_
  refine lv_aload_n hx hb dX1_append_29 rfl (lv_at hl 0 rfl) ?_
  refine va_get (D := D) (ci := 1) (v := .int ((m_R_append_2 I r n x1 x2) r 1)) (C := RX1) (T := TX1) (N := 4) hx hb hts inX1 hown hK hP r (mq_R h0.1) rfl 3 (by decide) (hts _ k_72) (fun _ h9 => h9) rfl dX1_append_30 ?_
  have g3 := ok.1
  have ok := ok.2
  refine q_callp (va_runV (As := [.int ((m_R_append_2 I r n x1 x2) r 1)]) (rest := [.ref (ad (r + 2))]) ⟨hx, hb, hml, hown, hts⟩ (c_R_slot l D cs ad hi h0 (m_R_append_2 I r n x1 x2) ((m_R_append_2 I r n x1 x2) r 1) g3) (cwV 1 hts (gV k_147 k_148 k_430 k_5 k_149) rfl rfl rfl (by decide +kernel) ⟨Nat.le_of_ble_eq_true rfl, Nat.le_of_ble_eq_true rfl⟩) (q_preV hK hP (va_recv hK hP (ci := 1) (q0 := r) rfl (mq_R h0.1))) rfl rfl hl.1 rfl (lv_room (Nat.le_of_ble_eq_true rfl)) dX1_append_33 ⟨Nat.zero_le _, Nat.zero_le _⟩) hS (fun _ h => h) (fun H locs hP hS => ?_)
  refine lv_iload_n hx hb dX1_append_36 rfl (lv_at hl 2 rfl) ?_
  have g4 := ok
  refine va_iast hx hb hK hP (mD hi) hS (r + 2) 0 (mq_A h0.2.2) rfl g4 dX1_append_37 (fun H locs hP _ hS => ?_)
  have hP := ms_A h0.2.2 hP
  have hP : va_P D vwCl (mw 97 ad (gs cs ad (m_R_append_3 I r n x1 x2))) H := hP
  refine lv_aload_n hx hb dX1_append_38 rfl (lv_at hl 0 rfl) ?_
  refine va_get (D := D) (ci := 1) (v := .int ((m_R_append_3 I r n x1 x2) r 1)) (C := RX1) (T := TX1) (N := 4) hx hb hts inX1 hown hK hP r (mq_R h0.1) rfl 3 (by decide) (hts _ k_72) (fun _ h9 => h9) rfl dX1_append_39 ?_
  exact q_iret hx hb hr hlocks dX1_append_42 hP hS rfl
def m_R_dropThrough_1 (I : Mm) (r n : Nat) (x1 : Int32) : Mm := u2 I r 0 x1
def f_R_dropThrough (I : Mm) (r n : Nat) (x1 : Int32) : Int32 × Mm := (x1 - (I r 0), (m_R_dropThrough_1 I r n x1))
set_option maxHeartbeats 4000000 in
set_option maxRecDepth 100000 in
theorem c_R_dropThrough (l : Launch) (D : va_G) (cs : Nat → ClassId) (ad : Nat → Nat) (hi : mi ad) {r n : Nat} (h0 : isR r n) (I : Mm) (x1 : Int32) : MC l yX1_dropThrough wX1_dropThrough { frames := 0, cells := 0, slots := 0, locals := 0 } D cs ad [.ref (ad r), .int x1] I (some (.int (f_R_dropThrough I r n x1).1)) (f_R_dropThrough I r n x1).2 := by
  refine q_enter (cc := cX1_dropThrough) (maxL := 3) (ret := (some .int)) (by decide +kernel) rfl (Nat.le_of_ble_eq_true rfl) ?_
  intro p e s m below meth c ls hx hb hr hml hown hts hlocks hK hP hS hl
  have hown : s.vm.findClass RX1 = some m.cls := hown
  have hts : ∀ w ∈ gtbl, w.before _ s = true := fun w h => hts w (List.mem_cons_of_mem _ h)
  have hl : lv_has ls 3 [(0, .ref (ad r)), (1, .int x1)] := hl
  refine lv_iload_n hx hb dX1_dropThrough_0 rfl (lv_at hl 1 rfl) ?_
  refine lv_aload_n hx hb dX1_dropThrough_1 rfl (lv_at hl 0 rfl) ?_
  refine va_get (D := D) (ci := 1) (v := .int (I r 0)) (C := RX1) (T := TX1) (N := 4) hx hb hts inX1 hown hK hP r (mq_R h0.1) rfl 2 (by decide) (hts _ k_70) (fun _ h9 => h9) rfl dX1_dropThrough_2 ?_
  refine lv_isub hx hb dX1_dropThrough_5 ?_
  refine lv_istore_n (lv' := [(2, .int (x1 - (I r 0))), (0, .ref (ad r)), (1, .int x1)]) hx hb dX1_dropThrough_6 rfl hl (by decide) rfl (fun ls hl => ?_)
  refine lv_aload_n hx hb dX1_dropThrough_7 rfl (lv_at hl 1 rfl) ?_
  refine lv_iload_n hx hb dX1_dropThrough_8 rfl (lv_at hl 2 rfl) ?_
  refine va_put (D := D) (ci := 1) (v := .int x1) (ty := .int) (C := RX1) (T := TX1) (N := 4) hx hb hts inX1 tyX1 tyX1_ok nmX1 hown hK hP (mD hi) hS r (mq_R h0.1) rfl 2 (by decide) (hts _ k_70) (fun _ h9 => h9) rfl (by decide +kernel) rfl rfl (Nat.le_of_ble_eq_true rfl) dX1_dropThrough_9 (fun H locs hP _ hS => ?_)
  have hP := ms_R0 h0.1 hP
  have hP : va_P D vwCl (mw 97 ad (gs cs ad (m_R_dropThrough_1 I r n x1))) H := hP
  refine lv_iload_n hx hb dX1_dropThrough_12 rfl (lv_at hl 0 rfl) ?_
  exact q_iret hx hb hr hlocks dX1_dropThrough_13 hP hS rfl

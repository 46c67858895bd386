def l_G_run : Nat → Mm → Int32 → Int32 → Int32 → Int32 × Mm
  | 0, J, _, _, _ => (0, J)
  | n + 1, J, x1, x2, x3 => (if x2 ≤ x3 then (x2, J) else (if ((f_G_doNext J x1).1) = 1 then (l_G_run n ((f_G_doNext J x1).2) x1 x2 (x3 + 1)) else (x3, (f_G_doNext J x1).2)))
def okl_G_run : Nat → Mm → Int32 → Int32 → Int32 → Prop
  | 0, _, _, _, _ => False
  | n + 1, J, x1, x2, x3 => (x2 ≤ x3 → True) ∧ (¬ x2 ≤ x3 → ok_G_doNext J x1 ∧ ((((f_G_doNext J x1).1) = 1 → okl_G_run n ((f_G_doNext J x1).2) x1 x2 (x3 + 1)) ∧ (¬ ((f_G_doNext J x1).1) = 1 → True)))
set_option maxHeartbeats 4000000 in
set_option maxRecDepth 100000 in
theorem w_G_run (l : Launch) (D : va_G) (cs : Nat → ClassId) (ad : Nat → Nat) (hi : mi ad) {p : Program} {e : Env} {s : State} {m : MethodId} {args : Array Value} {below : List Frame} {meth : Method} {c : Code} (x1 x2 : Int32) (hx : p.tables.exec = Jvm.exec) (hb : c.code = cX4_run) (hml : c.maxLocals = 4) (hown : s.vm.findClass RX4 = some m.cls) (hts : ∀ w ∈ gtbl, w.before args s = true) (hK : va_K D vwCl (tyl cs) s) (hr : meth.sig.returnType = some .int) (hlocks : meth.locks = false) : ∀ (n : Nat) (J : Mm) (x3 : Int32) (H : Heap) (locs : List Loc) (ls : Array Slot), okl_G_run n J x1 x2 x3 → va_P D vwCl (mw 97 ad (gs cs ad J)) H → va_S (mA ad) s.heap H locs → lv_has ls 4 [(3, .int x3), (0, .ref (ad 0)), (1, .int x1), (2, .int x2)] → W p l e { frames := 6, cells := 0, slots := 0, locals := 143 } s m args below meth c H locs 0 0 (MQ below (mQ D cs ad (some (.int (l_G_run n J x1 x2 x3).1)) (l_G_run n J x1 x2 x3).2) args s 0 0 (mA ad)) (F0 m 37 ls []) := by
  intro n
  induction n with
  | zero =>
    intro J x3 H locs ls ok hP hS hl
    exact absurd ok id
  | succ n ih =>
    intro J x3 H locs ls ok hP hS hl
    rw [okl_G_run] at ok
    refine lv_iload_n hx hb dX4_run_37 rfl (lv_at hl 0 rfl) ?_
    refine lv_iload_n hx hb dX4_run_38 rfl (lv_at hl 3 rfl) ?_
    refine lv_icmp_ge (tgt := 59) hx hb dX4_run_39 (by decide) (fun c1 => ?_) (fun c1 => ?_)
    · have ok := ok.1 c1
      refine lv_iload_n hx hb dX4_run_59 rfl (lv_at hl 3 rfl) ?_
      exact q_iret hx hb hr hlocks dX4_run_60 hP hS (by rw [l_G_run, if_pos c1])
    · have ok := ok.2 c1
      refine lv_aload_n hx hb dX4_run_42 rfl (lv_at hl 1 rfl) ?_
      refine lv_iload_n hx hb dX4_run_43 rfl (lv_at hl 2 rfl) ?_
      have g2 := ok.1
      have ok := ok.2
      refine q_calli (va_runV (As := [.int x1]) (rest := []) ⟨hx, hb, hml, hown, hts⟩ (c_G_doNext l D cs ad hi J x1 g2) (cwV 1 hts (gV k_173 k_174 k_432 k_1 k_175) rfl rfl rfl (by decide +kernel) ⟨Nat.le_of_ble_eq_true rfl, Nat.le_of_ble_eq_true rfl⟩) (q_preV hK hP (va_recv hK hP (ci := 4) (q0 := 0) rfl (mq_G isO_0))) rfl rfl hl.1 rfl (lv_room (Nat.le_of_ble_eq_true rfl)) dX4_run_44 ⟨Nat.zero_le _, Nat.zero_le _⟩) hS (fun _ h => h) (fun H locs hP hS => ?_)
      refine lv_iconst (v := 1) hx hb dX4_run_47 (by decide) ?_
      refine lv_icmp_eq (tgt := 53) hx hb dX4_run_48 (by decide) (fun c3 => ?_) (fun c3 => ?_)
      · have ok := ok.1 c3
        refine lv_iinc (v := x3 + 1) (lv' := [(3, .int (x3 + 1)), (0, .ref (ad 0)), (1, .int x1), (2, .int x2)]) hx hb dX4_run_53 hl (k := 0) rfl rfl (by decide) rfl (fun ls hl => ?_)
        refine lv_goto (tgt := 37) hx hb dX4_run_56 (by decide) ?_
        have e9 : l_G_run (n + 1) J x1 x2 x3 = l_G_run n ((f_G_doNext J x1).2) x1 x2 (x3 + 1) := (by rw [l_G_run, if_neg c1, if_pos c3])
        rw [e9]
        exact ih ((f_G_doNext J x1).2) (x3 + 1) _ _ _ ok hP hS (lv_sub hl [0, 1, 2, 3] rfl)
      · have ok := ok.2 c3
        refine lv_iload_n hx hb dX4_run_51 rfl (lv_at hl 0 rfl) ?_
        exact q_iret hx hb hr hlocks dX4_run_52 hP hS (by rw [l_G_run, if_neg c1, if_neg c3])
def f_G_run (I : Mm) (x1 x2 : Int32) : Int32 × Mm := (if (f_G_isProcess x1) = 0 then ((-1), I) else (if x2 < 1 then ((-1), I) else (if x2 ≤ 100 then (if (I (Mb x1) 0) = 0 then ((-2), I) else (l_G_run 101 I x1 x2 0)) else ((-1), I))))
def ok_G_run (I : Mm) (x1 x2 : Int32) : Prop := ((f_G_isProcess x1) = 0 → True) ∧ (¬ (f_G_isProcess x1) = 0 → (x2 < 1 → True) ∧ (¬ x2 < 1 → (x2 ≤ 100 → vp_in x1 3 ∧ (((I (Mb x1) 0) = 0 → True) ∧ (¬ (I (Mb x1) 0) = 0 → okl_G_run 101 I x1 x2 0))) ∧ (¬ x2 ≤ 100 → True)))
set_option maxHeartbeats 4000000 in
set_option maxRecDepth 100000 in
theorem c_G_run (l : Launch) (D : va_G) (cs : Nat → ClassId) (ad : Nat → Nat) (hi : mi ad) (I : Mm) (x1 x2 : Int32) (ok : ok_G_run I x1 x2) : MC l yX4_run wX4_run { frames := 6, cells := 0, slots := 0, locals := 143 } D cs ad [.ref (ad 0), .int x1, .int x2] I (some (.int (f_G_run I x1 x2).1)) (f_G_run I x1 x2).2 := by
  unfold ok_G_run at ok
  refine q_enter (cc := cX4_run) (maxL := 4) (ret := (some .int)) (by decide +kernel) rfl (Nat.le_of_ble_eq_true rfl) ?_
  intro p e s m below meth c ls hx hb hr hml hown hts hlocks hK hP hS hl
  have hown : s.vm.findClass RX4 = some m.cls := hown
  have hts : ∀ w ∈ gtbl, w.before _ s = true := fun w h => hts w (List.mem_cons_of_mem _ h)
  have hl : lv_has ls 4 [(0, .ref (ad 0)), (1, .int x1), (2, .int x2)] := hl
  refine lv_iload_n hx hb dX4_run_0 rfl (lv_at hl 1 rfl) ?_
  refine q_callp (va_runS (As := [.int x1]) (rest := []) ⟨hx, hb, hml, hown, hts⟩ (c_G_isProcess l D cs ad hi I x1) (va_cwS 1 hts (gS k_111 k_112 k_1 k_113) rfl rfl rfl (by decide +kernel) ⟨Nat.le_of_ble_eq_true rfl, Nat.le_of_ble_eq_true rfl⟩) (q_preS hK hP) rfl rfl hl.1 rfl (lv_room (Nat.le_of_ble_eq_true rfl)) dX4_run_1 ⟨Nat.zero_le _, Nat.zero_le _⟩) hS (fun _ h => h) (fun H locs hP hS => ?_)
  refine lv_if_eq (tgt := 18) hx hb dX4_run_4 (by decide) (fun c1 => ?_) (fun c1 => ?_)
  · have ok := ok.1 c1
    refine lv_iconst (v := (-1)) hx hb dX4_run_18 (by decide) ?_
    exact q_iret hx hb hr hlocks dX4_run_19 hP hS (by rw [f_G_run, if_pos c1])
  · have ok := ok.2 c1
    refine lv_iload_n hx hb dX4_run_7 rfl (lv_at hl 2 rfl) ?_
    refine lv_iconst (v := 1) hx hb dX4_run_8 (by decide) ?_
    refine lv_icmp_lt (tgt := 18) hx hb dX4_run_9 (by decide) (fun c2 => ?_) (fun c2 => ?_)
    · have ok := ok.1 c2
      refine lv_iconst (v := (-1)) hx hb dX4_run_18 (by decide) ?_
      exact q_iret hx hb hr hlocks dX4_run_19 hP hS (by rw [f_G_run, if_neg c1, if_pos c2])
    · have ok := ok.2 c2
      refine lv_iload_n hx hb dX4_run_12 rfl (lv_at hl 2 rfl) ?_
      refine lv_bipush (v := 100) hx hb dX4_run_13 (by decide) ?_
      refine lv_icmp_le (tgt := 20) hx hb dX4_run_15 (by decide) (fun c3 => ?_) (fun c3 => ?_)
      · have ok := ok.1 c3
        refine lv_aload_n hx hb dX4_run_20 rfl (lv_at hl 0 rfl) ?_
        refine va_get (D := D) (ci := 4) (v := .ref (ad 1)) (C := RX4) (T := TX4) (N := 3) hx hb hts inX4 hown hK hP 0 (mq_G isO_0) rfl 0 (by decide) (hts _ k_101) (fun _ h9 => h9) rfl dX4_run_21 ?_
        refine lv_iload_n hx hb dX4_run_24 rfl (lv_at hl 1 rfl) ?_
        have g4 := ok.1
        have ok := ok.2
        refine q_ldM hx hb hK hP g4 dX4_run_25 ?_
        refine va_get (D := D) (ci := 0) (v := .int (I (Mb x1) 0)) (C := RX0) (T := TX0) (N := 8) hx hb hts inX0 hown hK hP (Mb x1) (mq_M (isM_O (isM_in g4))) rfl 4 (by decide) (hts _ k_87) (fun _ h9 => h9) rfl dX4_run_26 ?_
        refine lv_if_ne (tgt := 35) hx hb dX4_run_29 (by decide) (fun c5 => ?_) (fun c5 => ?_)
        · have ok := ok.2 c5
          refine lv_iconst (v := 0) hx hb dX4_run_35 (by decide) ?_
          refine lv_istore_n (lv' := [(3, .int 0), (0, .ref (ad 0)), (1, .int x1), (2, .int x2)]) hx hb dX4_run_36 rfl hl (by decide) rfl (fun ls hl => ?_)
          have g6 := ok
          have e9 : f_G_run I x1 x2 = l_G_run 101 I x1 x2 0 := (by rw [f_G_run, if_neg c1, if_neg c2, if_pos c3, if_neg c5])
          rw [e9]
          exact w_G_run l D cs ad hi x1 x2 hx hb hml hown hts hK hr hlocks 101 I 0 _ _ _ g6 hP hS (lv_sub hl [0, 1, 2, 3] rfl)
        · have ok := ok.1 c5
          refine lv_bipush (v := (-2)) hx hb dX4_run_32 (by decide) ?_
          exact q_iret hx hb hr hlocks dX4_run_34 hP hS (by rw [f_G_run, if_neg c1, if_neg c2, if_pos c3, if_pos c5])
      · have ok := ok.2 c3
        refine lv_iconst (v := (-1)) hx hb dX4_run_18 (by decide) ?_
        exact q_iret hx hb hr hlocks dX4_run_19 hP hS (by rw [f_G_run, if_neg c1, if_neg c2, if_neg c3])

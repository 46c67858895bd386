def l_X_load : Nat → Mm → Int32 → Int32 → Mm
  | 0, J, _, _ => J
  | n + 1, J, x1, x2 => (if (J 81 x1.toNatClampNeg) ≤ x2 then (J) else (l_X_load n ((f_X_go J x1 1).2) x1 (x2 + 1)))
def okl_X_load : Nat → Mm → Int32 → Int32 → Prop
  | 0, _, _, _ => False
  | n + 1, J, x1, x2 => vp_in x1 3 ∧ (((J 81 x1.toNatClampNeg) ≤ x2 → True) ∧ (¬ (J 81 x1.toNatClampNeg) ≤ x2 → ok_X_go J x1 1 ∧ (okl_X_load n ((f_X_go J x1 1).2) x1 (x2 + 1))))
set_option maxHeartbeats 4000000 in
set_option maxRecDepth 100000 in
theorem w_X_load (l : Launch) (D : va_G) (cs : Nat → ClassId) (ad : Nat → Nat) (hi : mi ad) {p : Program} {e : Env} {s : State} {m : MethodId} {args : Array Value} {below : List Frame} {meth : Method} {c : Code} {Q : State → Prop} (x1 : Int32) (hx : p.tables.exec = Jvm.exec) (hb : c.code = cX5_load) (hml : c.maxLocals = 3) (hown : s.vm.findClass RX5 = some m.cls) (hts : ∀ w ∈ gtbl, w.before args s = true) (hK : va_K D vwCl (tyl cs) s) : ∀ (n : Nat) (J : Mm) (x2 : Int32) (H : Heap) (locs : List Loc) (ls : Array Slot), okl_X_load n J x1 x2 → va_P D vwCl (mw 97 ad (gs cs ad J)) H → va_S (mA ad) s.heap H locs → lv_has ls 3 [(2, .int x2), (0, .ref (ad 75)), (1, .int x1)] → (∀ (H : Heap) (locs : List Loc) (ls : Array Slot), va_P D vwCl (mw 97 ad (gs cs ad (l_X_load n J x1 x2))) H → va_S (mA ad) s.heap H locs → lv_has ls 3 [(0, .ref (ad 75)), (1, .int x1)] → W p l e { frames := 2, cells := 0, slots := 0, locals := 50 } s m args below meth c H locs 0 0 Q (F0 m 85 ls [])) → W p l e { frames := 2, cells := 0, slots := 0, locals := 50 } s m args below meth c H locs 0 0 Q (F0 m 62 ls []) := by
  intro n
  induction n with
  | zero =>
    intro J x2 H locs ls ok hP hS hl kk
    exact absurd ok id
  | succ n ih =>
    intro J x2 H locs ls ok hP hS hl kk
    rw [okl_X_load] at ok
    refine lv_iload_n hx hb dX5_load_62 rfl (lv_at hl 0 rfl) ?_
    refine lv_aload_n hx hb dX5_load_63 rfl (lv_at hl 1 rfl) ?_
    refine va_get (D := D) (ci := 5) (v := .ref (ad 81)) (C := RX5) (T := TX5) (N := 26) hx hb hts inX5 hown hK hP 75 (mq_X isO_75) rfl 5 (by decide) (hts _ k_280) (fun _ h9 => h9) rfl dX5_load_64 ?_
    refine lv_iload_n hx hb dX5_load_67 rfl (lv_at hl 2 rfl) ?_
    have g1 := ok.1
    have ok := ok.2
    refine va_iald hx hb hK hP 81 0 (mq_A iA_81) rfl g1 dX5_load_68 ?_
    refine lv_icmp_ge (tgt := 85) hx hb dX5_load_69 (by decide) (fun c2 => ?_) (fun c2 => ?_)
    · have ok := ok.1 c2
      have e9 : l_X_load (n + 1) J x1 x2 = (J) := (by rw [l_X_load, if_pos c2])
      rw [e9] at kk
      exact kk _ _ _ hP hS (lv_sub hl [1, 2] rfl)
    · have ok := ok.2 c2
      refine lv_aload_n hx hb dX5_load_72 rfl (lv_at hl 1 rfl) ?_
      refine lv_iload_n hx hb dX5_load_73 rfl (lv_at hl 2 rfl) ?_
      refine lv_iconst (v := 1) hx hb dX5_load_74 (by decide) ?_
      have g3 := ok.1
      have ok := ok.2
      refine q_calli (va_runV (As := [.int x1, .int 1]) (rest := []) ⟨hx, hb, hml, hown, hts⟩ (c_X_go l D cs ad hi J x1 1 g3) (cwV 2 hts (gV k_365 k_366 k_440 k_6 k_367) rfl rfl rfl (by decide +kernel) ⟨Nat.le_of_ble_eq_true rfl, Nat.le_of_ble_eq_true rfl⟩) (q_preV hK hP (va_recv hK hP (ci := 5) (q0 := 75) rfl (mq_X isO_75))) rfl rfl hl.1 rfl (lv_room (Nat.le_of_ble_eq_true rfl)) dX5_load_75 ⟨Nat.zero_le _, Nat.zero_le _⟩) hS (fun _ h => h) (fun H locs hP hS => ?_)
      refine lv_pop hx hb dX5_load_78 rfl ?_
      refine lv_iinc (v := x2 + 1) (lv' := [(2, .int (x2 + 1)), (0, .ref (ad 75)), (1, .int x1)]) hx hb dX5_load_79 hl (k := 0) rfl rfl (by decide) rfl (fun ls hl => ?_)
      refine lv_goto (tgt := 62) hx hb dX5_load_82 (by decide) ?_
      have e9 : l_X_load (n + 1) J x1 x2 = l_X_load n ((f_X_go J x1 1).2) x1 (x2 + 1) := (by rw [l_X_load, if_neg c2])
      rw [e9] at kk
      exact ih ((f_X_go J x1 1).2) (x2 + 1) _ _ _ ok hP hS (lv_sub hl [0, 1, 2] rfl) kk
def m_X_load_1 (I : Mm) (x1 : Int32) : Mm := u2 I 95 ((0 : Int32).toNatClampNeg) 0
def m_X_load_2 (I : Mm) (x1 : Int32) : Mm := u2 (m_X_load_1 I x1) 95 ((1 : Int32).toNatClampNeg) 0
def m_X_load_3 (I : Mm) (x1 : Int32) : Mm := u2 (m_X_load_2 I x1) 95 ((2 : Int32).toNatClampNeg) 0
def m_X_load_4 (I : Mm) (x1 : Int32) : Mm := u2 (m_X_load_3 I x1) 95 ((3 : Int32).toNatClampNeg) 0
def m_X_load_5 (I : Mm) (x1 : Int32) : Mm := u2 (m_X_load_4 I x1) 96 ((0 : Int32).toNatClampNeg) 0
def m_X_load_6 (I : Mm) (x1 : Int32) : Mm := u2 (m_X_load_5 I x1) 96 ((1 : Int32).toNatClampNeg) 0
def m_X_load_7 (I : Mm) (x1 : Int32) : Mm := u2 (m_X_load_6 I x1) 96 ((2 : Int32).toNatClampNeg) 0
def m_X_load_8 (I : Mm) (x1 : Int32) : Mm := u2 (m_X_load_7 I x1) 75 1 0
def m_X_load_9 (I : Mm) (x1 : Int32) : Mm := u2 (m_X_load_8 I x1) 75 2 0
def m_X_load_10 (I : Mm) (x1 : Int32) : Mm := u2 (m_X_load_9 I x1) 75 3 0
def m_X_load_11 (I : Mm) (x1 : Int32) : Mm := u2 (m_X_load_10 I x1) 75 4 0
def f_X_load (I : Mm) (x1 : Int32) : Mm := ((l_X_load (((m_X_load_11 I x1) 81 x1.toNatClampNeg).toNatClampNeg + 1) (m_X_load_11 I x1) x1 0))
def ok_X_load (I : Mm) (x1 : Int32) : Prop := okl_X_load (((m_X_load_11 I x1) 81 x1.toNatClampNeg).toNatClampNeg + 1) (m_X_load_11 I x1) x1 0
set_option maxHeartbeats 4000000 in
set_option maxRecDepth 100000 in
theorem c_X_load (l : Launch) (D : va_G) (cs : Nat → ClassId) (ad : Nat → Nat) (hi : mi ad) (I : Mm) (x1 : Int32) (ok : ok_X_load I x1) : MC l yX5_load wX5_load { frames := 2, cells := 0, slots := 0, locals := 50 } D cs ad [.ref (ad 75), .int x1] I none (f_X_load I x1) := by
  unfold ok_X_load at ok
  refine q_enter (cc := cX5_load) (maxL := 3) (ret := none) (by decide +kernel) rfl (Nat.le_of_ble_eq_true rfl) ?_
  intro p e s m below meth c ls hx hb hr hml hown hts hlocks hK hP hS hl
  have hown : s.vm.findClass RX5 = some m.cls := hown
  have hts : ∀ w ∈ gtbl, w.before _ s = true := fun w h => hts w (List.mem_cons_of_mem _ h)
  have hl : lv_has ls 3 [(0, .ref (ad 75)), (1, .int x1)] := hl
  refine lv_iconst (v := 0) hx hb dX5_load_0 (by decide) ?_
  refine lv_istore_n (lv' := [(2, .int 0), (0, .ref (ad 75)), (1, .int x1)]) hx hb dX5_load_1 rfl hl (by decide) rfl (fun ls hl => ?_)
  refine lv_iload_n hx hb dX5_load_2 rfl (lv_at hl 0 rfl) ?_
  refine lv_iconst (v := 4) hx hb dX5_load_3 (by decide) ?_
  refine lv_icmp_ge (tgt := 20) hx hb dX5_load_4 (by decide) (fun c1 => absurd c1 (by decide)) (fun c1 => ?_)
  refine lv_aload_n hx hb dX5_load_7 rfl (lv_at hl 1 rfl) ?_
  refine va_get (D := D) (ci := 5) (v := .ref (ad 95)) (C := RX5) (T := TX5) (N := 26) hx hb hts inX5 hown hK hP 75 (mq_X isO_75) rfl 20 (by decide) (hts _ k_295) (fun _ h9 => h9) rfl dX5_load_8 ?_
  refine lv_iload_n hx hb dX5_load_11 rfl (lv_at hl 0 rfl) ?_
  refine lv_iconst (v := 0) hx hb dX5_load_12 (by decide) ?_
  refine va_iast hx hb hK hP (mD hi) hS 95 0 (mq_A iA_95) rfl (by unfold vp_in; decide) dX5_load_13 (fun H locs hP _ hS => ?_)
  have hP := ms_A iA_95 hP
  have hP : va_P D vwCl (mw 97 ad (gs cs ad (m_X_load_1 I x1))) H := hP
  refine lv_iinc (v := 1) (lv' := [(2, .int 1), (0, .ref (ad 75)), (1, .int x1)]) hx hb dX5_load_14 hl (k := 0) rfl (by decide) (by decide) rfl (fun ls hl => ?_)
  refine lv_goto (tgt := 2) hx hb dX5_load_17 (by decide) ?_
  refine lv_iload_n hx hb dX5_load_2 rfl (lv_at hl 0 rfl) ?_
  refine lv_iconst (v := 4) hx hb dX5_load_3 (by decide) ?_
  refine lv_icmp_ge (tgt := 20) hx hb dX5_load_4 (by decide) (fun c2 => absurd c2 (by decide)) (fun c2 => ?_)
  refine lv_aload_n hx hb dX5_load_7 rfl (lv_at hl 1 rfl) ?_
  refine va_get (D := D) (ci := 5) (v := .ref (ad 95)) (C := RX5) (T := TX5) (N := 26) hx hb hts inX5 hown hK hP 75 (mq_X isO_75) rfl 20 (by decide) (hts _ k_295) (fun _ h9 => h9) rfl dX5_load_8 ?_
  refine lv_iload_n hx hb dX5_load_11 rfl (lv_at hl 0 rfl) ?_
  refine lv_iconst (v := 0) hx hb dX5_load_12 (by decide) ?_
  refine va_iast hx hb hK hP (mD hi) hS 95 0 (mq_A iA_95) rfl (by unfold vp_in; decide) dX5_load_13 (fun H locs hP _ hS => ?_)
  have hP := ms_A iA_95 hP
  have hP : va_P D vwCl (mw 97 ad (gs cs ad (m_X_load_2 I x1))) H := hP
  refine lv_iinc (v := 2) (lv' := [(2, .int 2), (0, .ref (ad 75)), (1, .int x1)]) hx hb dX5_load_14 hl (k := 0) rfl (by decide) (by decide) rfl (fun ls hl => ?_)
  refine lv_goto (tgt := 2) hx hb dX5_load_17 (by decide) ?_
  refine lv_iload_n hx hb dX5_load_2 rfl (lv_at hl 0 rfl) ?_
  refine lv_iconst (v := 4) hx hb dX5_load_3 (by decide) ?_
  refine lv_icmp_ge (tgt := 20) hx hb dX5_load_4 (by decide) (fun c3 => absurd c3 (by decide)) (fun c3 => ?_)
  refine lv_aload_n hx hb dX5_load_7 rfl (lv_at hl 1 rfl) ?_
  refine va_get (D := D) (ci := 5) (v := .ref (ad 95)) (C := RX5) (T := TX5) (N := 26) hx hb hts inX5 hown hK hP 75 (mq_X isO_75) rfl 20 (by decide) (hts _ k_295) (fun _ h9 => h9) rfl dX5_load_8 ?_
  refine lv_iload_n hx hb dX5_load_11 rfl (lv_at hl 0 rfl) ?_
  refine lv_iconst (v := 0) hx hb dX5_load_12 (by decide) ?_
  refine va_iast hx hb hK hP (mD hi) hS 95 0 (mq_A iA_95) rfl (by unfold vp_in; decide) dX5_load_13 (fun H locs hP _ hS => ?_)
  have hP := ms_A iA_95 hP
  have hP : va_P D vwCl (mw 97 ad (gs cs ad (m_X_load_3 I x1))) H := hP
  refine lv_iinc (v := 3) (lv' := [(2, .int 3), (0, .ref (ad 75)), (1, .int x1)]) hx hb dX5_load_14 hl (k := 0) rfl (by decide) (by decide) rfl (fun ls hl => ?_)
  refine lv_goto (tgt := 2) hx hb dX5_load_17 (by decide) ?_
  refine lv_iload_n hx hb dX5_load_2 rfl (lv_at hl 0 rfl) ?_
  refine lv_iconst (v := 4) hx hb dX5_load_3 (by decide) ?_
  refine lv_icmp_ge (tgt := 20) hx hb dX5_load_4 (by decide) (fun c4 => absurd c4 (by decide)) (fun c4 => ?_)
  refine lv_aload_n hx hb dX5_load_7 rfl (lv_at hl 1 rfl) ?_
  refine va_get (D := D) (ci := 5) (v := .ref (ad 95)) (C := RX5) (T := TX5) (N := 26) hx hb hts inX5 hown hK hP 75 (mq_X isO_75) rfl 20 (by decide) (hts _ k_295) (fun _ h9 => h9) rfl dX5_load_8 ?_
  refine lv_iload_n hx hb dX5_load_11 rfl (lv_at hl 0 rfl) ?_
  refine lv_iconst (v := 0) hx hb dX5_load_12 (by decide) ?_
  refine va_iast hx hb hK hP (mD hi) hS 95 0 (mq_A iA_95) rfl (by unfold vp_in; decide) dX5_load_13 (fun H locs hP _ hS => ?_)
  have hP := ms_A iA_95 hP
  have hP : va_P D vwCl (mw 97 ad (gs cs ad (m_X_load_4 I x1))) H := hP
  refine lv_iinc (v := 4) (lv' := [(2, .int 4), (0, .ref (ad 75)), (1, .int x1)]) hx hb dX5_load_14 hl (k := 0) rfl (by decide) (by decide) rfl (fun ls hl => ?_)
  refine lv_goto (tgt := 2) hx hb dX5_load_17 (by decide) ?_
  refine lv_iload_n hx hb dX5_load_2 rfl (lv_at hl 0 rfl) ?_
  refine lv_iconst (v := 4) hx hb dX5_load_3 (by decide) ?_
  refine lv_icmp_ge (tgt := 20) hx hb dX5_load_4 (by decide) (fun c5 => ?_) (fun c5 => absurd c5 (by decide))
  refine lv_iconst (v := 0) hx hb dX5_load_20 (by decide) ?_
  refine lv_istore_n (lv' := [(2, .int 0), (0, .ref (ad 75)), (1, .int x1)]) hx hb dX5_load_21 rfl hl (by decide) rfl (fun ls hl => ?_)
  refine lv_iload_n hx hb dX5_load_22 rfl (lv_at hl 0 rfl) ?_
  refine lv_iconst (v := 3) hx hb dX5_load_23 (by decide) ?_
  refine lv_icmp_ge (tgt := 40) hx hb dX5_load_24 (by decide) (fun c6 => absurd c6 (by decide)) (fun c6 => ?_)
  refine lv_aload_n hx hb dX5_load_27 rfl (lv_at hl 1 rfl) ?_
  refine va_get (D := D) (ci := 5) (v := .ref (ad 96)) (C := RX5) (T := TX5) (N := 26) hx hb hts inX5 hown hK hP 75 (mq_X isO_75) rfl 21 (by decide) (hts _ k_296) (fun _ h9 => h9) rfl dX5_load_28 ?_
  refine lv_iload_n hx hb dX5_load_31 rfl (lv_at hl 0 rfl) ?_
  refine lv_iconst (v := 0) hx hb dX5_load_32 (by decide) ?_
  refine va_iast hx hb hK hP (mD hi) hS 96 0 (mq_A iA_96) rfl (by unfold vp_in; decide) dX5_load_33 (fun H locs hP _ hS => ?_)
  have hP := ms_A iA_96 hP
  have hP : va_P D vwCl (mw 97 ad (gs cs ad (m_X_load_5 I x1))) H := hP
  refine lv_iinc (v := 1) (lv' := [(2, .int 1), (0, .ref (ad 75)), (1, .int x1)]) hx hb dX5_load_34 hl (k := 0) rfl (by decide) (by decide) rfl (fun ls hl => ?_)
  refine lv_goto (tgt := 22) hx hb dX5_load_37 (by decide) ?_
  refine lv_iload_n hx hb dX5_load_22 rfl (lv_at hl 0 rfl) ?_
  refine lv_iconst (v := 3) hx hb dX5_load_23 (by decide) ?_
  refine lv_icmp_ge (tgt := 40) hx hb dX5_load_24 (by decide) (fun c7 => absurd c7 (by decide)) (fun c7 => ?_)
  refine lv_aload_n hx hb dX5_load_27 rfl (lv_at hl 1 rfl) ?_
  refine va_get (D := D) (ci := 5) (v := .ref (ad 96)) (C := RX5) (T := TX5) (N := 26) hx hb hts inX5 hown hK hP 75 (mq_X isO_75) rfl 21 (by decide) (hts _ k_296) (fun _ h9 => h9) rfl dX5_load_28 ?_
  refine lv_iload_n hx hb dX5_load_31 rfl (lv_at hl 0 rfl) ?_
  refine lv_iconst (v := 0) hx hb dX5_load_32 (by decide) ?_
  refine va_iast hx hb hK hP (mD hi) hS 96 0 (mq_A iA_96) rfl (by unfold vp_in; decide) dX5_load_33 (fun H locs hP _ hS => ?_)
  have hP := ms_A iA_96 hP
  have hP : va_P D vwCl (mw 97 ad (gs cs ad (m_X_load_6 I x1))) H := hP
  refine lv_iinc (v := 2) (lv' := [(2, .int 2), (0, .ref (ad 75)), (1, .int x1)]) hx hb dX5_load_34 hl (k := 0) rfl (by decide) (by decide) rfl (fun ls hl => ?_)
  refine lv_goto (tgt := 22) hx hb dX5_load_37 (by decide) ?_
  refine lv_iload_n hx hb dX5_load_22 rfl (lv_at hl 0 rfl) ?_
  refine lv_iconst (v := 3) hx hb dX5_load_23 (by decide) ?_
  refine lv_icmp_ge (tgt := 40) hx hb dX5_load_24 (by decide) (fun c8 => absurd c8 (by decide)) (fun c8 => ?_)
  refine lv_aload_n hx hb dX5_load_27 rfl (lv_at hl 1 rfl) ?_
  refine va_get (D := D) (ci := 5) (v := .ref (ad 96)) (C := RX5) (T := TX5) (N := 26) hx hb hts inX5 hown hK hP 75 (mq_X isO_75) rfl 21 (by decide) (hts _ k_296) (fun _ h9 => h9) rfl dX5_load_28 ?_
  refine lv_iload_n hx hb dX5_load_31 rfl (lv_at hl 0 rfl) ?_
  refine lv_iconst (v := 0) hx hb dX5_load_32 (by decide) ?_
  refine va_iast hx hb hK hP (mD hi) hS 96 0 (mq_A iA_96) rfl (by unfold vp_in; decide) dX5_load_33 (fun H locs hP _ hS => ?_)
  have hP := ms_A iA_96 hP
  have hP : va_P D vwCl (mw 97 ad (gs cs ad (m_X_load_7 I x1))) H := hP
  refine lv_iinc (v := 3) (lv' := [(2, .int 3), (0, .ref (ad 75)), (1, .int x1)]) hx hb dX5_load_34 hl (k := 0) rfl (by decide) (by decide) rfl (fun ls hl => ?_)
  refine lv_goto (tgt := 22) hx hb dX5_load_37 (by decide) ?_
  refine lv_iload_n hx hb dX5_load_22 rfl (lv_at hl 0 rfl) ?_
  refine lv_iconst (v := 3) hx hb dX5_load_23 (by decide) ?_
  refine lv_icmp_ge (tgt := 40) hx hb dX5_load_24 (by decide) (fun c9 => ?_) (fun c9 => absurd c9 (by decide))
  refine lv_aload_n hx hb dX5_load_40 rfl (lv_at hl 1 rfl) ?_
  refine lv_iconst (v := 0) hx hb dX5_load_41 (by decide) ?_
  refine va_put (D := D) (ci := 5) (v := .int 0) (ty := .int) (C := RX5) (T := TX5) (N := 26) hx hb hts inX5 tyX5 tyX5_ok nmX5 hown hK hP (mD hi) hS 75 (mq_X isO_75) rfl 22 (by decide) (hts _ k_297) (fun _ h9 => h9) rfl (by decide +kernel) rfl rfl (Nat.le_of_ble_eq_true rfl) dX5_load_42 (fun H locs hP _ hS => ?_)
  have hP := ms_X1 isO_75 hP
  have hP : va_P D vwCl (mw 97 ad (gs cs ad (m_X_load_8 I x1))) H := hP
  refine lv_aload_n hx hb dX5_load_45 rfl (lv_at hl 1 rfl) ?_
  refine lv_iconst (v := 0) hx hb dX5_load_46 (by decide) ?_
  refine va_put (D := D) (ci := 5) (v := .int 0) (ty := .int) (C := RX5) (T := TX5) (N := 26) hx hb hts inX5 tyX5 tyX5_ok nmX5 hown hK hP (mD hi) hS 75 (mq_X isO_75) rfl 23 (by decide) (hts _ k_298) (fun _ h9 => h9) rfl (by decide +kernel) rfl rfl (Nat.le_of_ble_eq_true rfl) dX5_load_47 (fun H locs hP _ hS => ?_)
  have hP := ms_X2 isO_75 hP
  have hP : va_P D vwCl (mw 97 ad (gs cs ad (m_X_load_9 I x1))) H := hP
  refine lv_aload_n hx hb dX5_load_50 rfl (lv_at hl 1 rfl) ?_
  refine lv_iconst (v := 0) hx hb dX5_load_51 (by decide) ?_
  refine va_put (D := D) (ci := 5) (v := .int 0) (ty := .int) (C := RX5) (T := TX5) (N := 26) hx hb hts inX5 tyX5 tyX5_ok nmX5 hown hK hP (mD hi) hS 75 (mq_X isO_75) rfl 24 (by decide) (hts _ k_299) (fun _ h9 => h9) rfl (by decide +kernel) rfl rfl (Nat.le_of_ble_eq_true rfl) dX5_load_52 (fun H locs hP _ hS => ?_)
  have hP := ms_X3 isO_75 hP
  have hP : va_P D vwCl (mw 97 ad (gs cs ad (m_X_load_10 I x1))) H := hP
  refine lv_aload_n hx hb dX5_load_55 rfl (lv_at hl 1 rfl) ?_
  refine lv_iconst (v := 0) hx hb dX5_load_56 (by decide) ?_
  refine va_put (D := D) (ci := 5) (v := .int 0) (ty := .int) (C := RX5) (T := TX5) (N := 26) hx hb hts inX5 tyX5 tyX5_ok nmX5 hown hK hP (mD hi) hS 75 (mq_X isO_75) rfl 25 (by decide) (hts _ k_300) (fun _ h9 => h9) rfl (by decide +kernel) rfl rfl (Nat.le_of_ble_eq_true rfl) dX5_load_57 (fun H locs hP _ hS => ?_)
  have hP := ms_X4 isO_75 hP
  have hP : va_P D vwCl (mw 97 ad (gs cs ad (m_X_load_11 I x1))) H := hP
  refine lv_iconst (v := 0) hx hb dX5_load_60 (by decide) ?_
  refine lv_istore_n (lv' := [(2, .int 0), (0, .ref (ad 75)), (1, .int x1)]) hx hb dX5_load_61 rfl hl (by decide) rfl (fun ls hl => ?_)
  have g10 := ok
  refine w_X_load l D cs ad hi x1 hx hb hml hown hts hK (((m_X_load_11 I x1) 81 x1.toNatClampNeg).toNatClampNeg + 1) (m_X_load_11 I x1) 0 _ _ _ g10 hP hS (lv_sub hl [0, 1, 2] rfl) (fun H locs ls hP hS hl => ?_)
  exact q_vret hx hb hr hlocks dX5_load_85 hP hS rfl
def m_X_step_1 (I : Mm) (x1 : Int32) : Mm := u2 ((f_X_go (f_X_load I x1) x1 0).2) 81 x1.toNatClampNeg ((((f_X_go (f_X_load I x1) x1 0).2) 81 x1.toNatClampNeg) + 1)
def m_X_step_2 (I : Mm) (x1 : Int32) : Mm := u2 (m_X_step_1 I x1) 84 x1.toNatClampNeg (vp_nar .boolean 1)
def f_X_step (I : Mm) (x1 : Int32) : Int32 × Mm := (if (f_X_isProcess x1) = 0 then ((-1), I) else (if (I 80 x1.toNatClampNeg) = 0 then (if ((f_X_go (f_X_load I x1) x1 0).1) = 1 then ((f_X_go (f_X_load I x1) x1 0).1, (m_X_step_2 I x1)) else ((f_X_go (f_X_load I x1) x1 0).1, (f_X_go (f_X_load I x1) x1 0).2)) else ((-2), I)))
def ok_X_step (I : Mm) (x1 : Int32) : Prop := ((f_X_isProcess x1) = 0 → True) ∧ (¬ (f_X_isProcess x1) = 0 → vp_in x1 3 ∧ (((I 80 x1.toNatClampNeg) = 0 → ok_X_load I x1 ∧ (ok_X_go (f_X_load I x1) x1 0)) ∧ (¬ (I 80 x1.toNatClampNeg) = 0 → True)))
set_option maxHeartbeats 4000000 in
set_option maxRecDepth 100000 in
theorem c_X_step (l : Launch) (D : va_G) (cs : Nat → ClassId) (ad : Nat → Nat) (hi : mi ad) (I : Mm) (x1 : Int32) (ok : ok_X_step I x1) : MC l yX5_step wX5_step { frames := 3, cells := 0, slots := 0, locals := 72 } D cs ad [.ref (ad 75), .int x1] I (some (.int (f_X_step I x1).1)) (f_X_step I x1).2 := by
  unfold ok_X_step at ok
  refine q_enter (cc := cX5_step) (maxL := 3) (ret := (some .int)) (by decide +kernel) rfl (Nat.le_of_ble_eq_true rfl) ?_
  intro p e s m below meth c ls hx hb hr hml hown hts hlocks hK hP hS hl
  have hown : s.vm.findClass RX5 = some m.cls := hown
  have hts : ∀ w ∈ gtbl, w.before _ s = true := fun w h => hts w (List.mem_cons_of_mem _ h)
  have hl : lv_has ls 3 [(0, .ref (ad 75)), (1, .int x1)] := hl
  refine lv_iload_n hx hb dX5_step_0 rfl (lv_at hl 1 rfl) ?_
  refine q_callp (va_runS (As := [.int x1]) (rest := []) ⟨hx, hb, hml, hown, hts⟩ (c_X_isProcess l D cs ad hi I x1) (va_cwS 1 hts (gS k_332 k_333 k_6 k_334) rfl rfl rfl (by decide +kernel) ⟨Nat.le_of_ble_eq_true rfl, Nat.le_of_ble_eq_true rfl⟩) (q_preS hK hP) rfl rfl hl.1 rfl (lv_room (Nat.le_of_ble_eq_true rfl)) dX5_step_1 ⟨Nat.zero_le _, Nat.zero_le _⟩) hS (fun _ h => h) (fun H locs hP hS => ?_)
  refine lv_if_ne (tgt := 9) hx hb dX5_step_4 (by decide) (fun c1 => ?_) (fun c1 => ?_)
  · have ok := ok.2 c1
    refine lv_aload_n hx hb dX5_step_9 rfl (lv_at hl 0 rfl) ?_
    refine va_get (D := D) (ci := 5) (v := .ref (ad 80)) (C := RX5) (T := TX5) (N := 26) hx hb hts inX5 hown hK hP 75 (mq_X isO_75) rfl 4 (by decide) (hts _ k_279) (fun _ h9 => h9) rfl dX5_step_10 ?_
    refine lv_iload_n hx hb dX5_step_13 rfl (lv_at hl 1 rfl) ?_
    have g2 := ok.1
    have ok := ok.2
    refine va_zald hx hb hK hP 80 1 (mq_Z iZ_80) rfl g2 dX5_step_14 ?_
    refine lv_if_eq (tgt := 21) hx hb dX5_step_15 (by decide) (fun c3 => ?_) (fun c3 => ?_)
    · have ok := ok.1 c3
      refine lv_aload_n hx hb dX5_step_21 rfl (lv_at hl 0 rfl) ?_
      refine lv_iload_n hx hb dX5_step_22 rfl (lv_at hl 1 rfl) ?_
      have g4 := ok.1
      have ok := ok.2
      refine q_callv (va_runV (As := [.int x1]) (rest := []) ⟨hx, hb, hml, hown, hts⟩ (c_X_load l D cs ad hi I x1 g4) (cwV 1 hts (gV k_362 k_363 k_439 k_6 k_364) rfl rfl rfl (by decide +kernel) ⟨Nat.le_of_ble_eq_true rfl, Nat.le_of_ble_eq_true rfl⟩) (q_preV hK hP (va_recv hK hP (ci := 5) (q0 := 75) rfl (mq_X isO_75))) rfl rfl hl.1 rfl (lv_room (Nat.le_of_ble_eq_true rfl)) dX5_step_23 ⟨Nat.zero_le _, Nat.zero_le _⟩) hS (fun _ h => h) (fun H locs hP hS => ?_)
      refine lv_aload_n hx hb dX5_step_26 rfl (lv_at hl 0 rfl) ?_
      refine lv_iload_n hx hb dX5_step_27 rfl (lv_at hl 1 rfl) ?_
      refine lv_iconst (v := 0) hx hb dX5_step_28 (by decide) ?_
      have g5 := ok
      refine q_calli (va_runV (As := [.int x1, .int 0]) (rest := []) ⟨hx, hb, hml, hown, hts⟩ (c_X_go l D cs ad hi (f_X_load I x1) x1 0 g5) (cwV 2 hts (gV k_365 k_366 k_440 k_6 k_367) rfl rfl rfl (by decide +kernel) ⟨Nat.le_of_ble_eq_true rfl, Nat.le_of_ble_eq_true rfl⟩) (q_preV hK hP (va_recv hK hP (ci := 5) (q0 := 75) rfl (mq_X isO_75))) rfl rfl hl.1 rfl (lv_room (Nat.le_of_ble_eq_true rfl)) dX5_step_29 ⟨Nat.zero_le _, Nat.zero_le _⟩) hS (fun _ h => h) (fun H locs hP hS => ?_)
      refine lv_istore_n (lv' := [(2, .int ((f_X_go (f_X_load I x1) x1 0).1)), (0, .ref (ad 75)), (1, .int x1)]) hx hb dX5_step_32 rfl hl (by decide) rfl (fun ls hl => ?_)
      refine lv_iload_n hx hb dX5_step_33 rfl (lv_at hl 0 rfl) ?_
      refine lv_iconst (v := 1) hx hb dX5_step_34 (by decide) ?_
      refine lv_icmp_ne (tgt := 55) hx hb dX5_step_35 (by decide) (fun c6 => ?_) (fun c6 => ?_)
      · have c6 := c6
        refine lv_iload_n hx hb dX5_step_55 rfl (lv_at hl 0 rfl) ?_
        exact q_iret hx hb hr hlocks dX5_step_56 hP hS (by rw [f_X_step, if_neg c1, if_pos c3, if_neg c6])
      · have c6 := c6
        refine lv_aload_n hx hb dX5_step_38 rfl (lv_at hl 1 rfl) ?_
        refine va_get (D := D) (ci := 5) (v := .ref (ad 81)) (C := RX5) (T := TX5) (N := 26) hx hb hts inX5 hown hK hP 75 (mq_X isO_75) rfl 5 (by decide) (hts _ k_280) (fun _ h9 => h9) rfl dX5_step_39 ?_
        refine lv_iload_n hx hb dX5_step_42 rfl (lv_at hl 2 rfl) ?_
        refine lv_dup2_11 hx hb dX5_step_43 rfl rfl ?_
        refine va_iald hx hb hK hP 81 0 (mq_A iA_81) rfl g2 dX5_step_44 ?_
        refine lv_iconst (v := 1) hx hb dX5_step_45 (by decide) ?_
        refine lv_iadd hx hb dX5_step_46 ?_
        refine va_iast hx hb hK hP (mD hi) hS 81 0 (mq_A iA_81) rfl g2 dX5_step_47 (fun H locs hP _ hS => ?_)
        have hP := ms_A iA_81 hP
        have hP : va_P D vwCl (mw 97 ad (gs cs ad (m_X_step_1 I x1))) H := hP
        refine lv_aload_n hx hb dX5_step_48 rfl (lv_at hl 1 rfl) ?_
        refine va_get (D := D) (ci := 5) (v := .ref (ad 84)) (C := RX5) (T := TX5) (N := 26) hx hb hts inX5 hown hK hP 75 (mq_X isO_75) rfl 8 (by decide) (hts _ k_283) (fun _ h9 => h9) rfl dX5_step_49 ?_
        refine lv_iload_n hx hb dX5_step_52 rfl (lv_at hl 2 rfl) ?_
        refine lv_iconst (v := 1) hx hb dX5_step_53 (by decide) ?_
        refine va_zast hx hb hK hP (mD hi) hS 84 1 (mq_Z iZ_84) rfl g2 dX5_step_54 (fun H locs hP _ hS => ?_)
        have hP := ms_Z iZ_84 hP
        have hP : va_P D vwCl (mw 97 ad (gs cs ad (m_X_step_2 I x1))) H := hP
        refine lv_iload_n hx hb dX5_step_55 rfl (lv_at hl 0 rfl) ?_
        exact q_iret hx hb hr hlocks dX5_step_56 hP hS (by rw [f_X_step, if_neg c1, if_pos c3, if_pos c6])
    · have ok := ok.2 c3
      refine lv_bipush (v := (-2)) hx hb dX5_step_18 (by decide) ?_
      exact q_iret hx hb hr hlocks dX5_step_20 hP hS (by rw [f_X_step, if_neg c1, if_neg c3])
  · have ok := ok.1 c1
    refine lv_iconst (v := (-1)) hx hb dX5_step_7 (by decide) ?_
    exact q_iret hx hb hr hlocks dX5_step_8 hP hS (by rw [f_X_step, if_pos c1])
def m_X_checkpoint_1 (I : Mm) (x1 : Int32) : Mm := u2 (f_X_load I x1) 82 x1.toNatClampNeg ((f_X_load I x1) 81 x1.toNatClampNeg)
def m_X_checkpoint_2 (I : Mm) (x1 : Int32) : Mm := u2 (m_X_checkpoint_1 I x1) 83 x1.toNatClampNeg ((m_X_checkpoint_1 I x1) 75 2)
def f_X_checkpoint (I : Mm) (x1 : Int32) : Int32 × Mm := (if (f_X_isProcess x1) = 0 then ((-1), I) else (if (I 80 x1.toNatClampNeg) = 0 then (((f_X_load I x1) 75 2) - ((f_X_load I x1) 83 x1.toNatClampNeg), (m_X_checkpoint_2 I x1)) else ((-2), I)))
def ok_X_checkpoint (I : Mm) (x1 : Int32) : Prop := ((f_X_isProcess x1) = 0 → True) ∧ (¬ (f_X_isProcess x1) = 0 → vp_in x1 3 ∧ (((I 80 x1.toNatClampNeg) = 0 → ok_X_load I x1) ∧ (¬ (I 80 x1.toNatClampNeg) = 0 → True)))
set_option maxHeartbeats 4000000 in
set_option maxRecDepth 100000 in
theorem c_X_checkpoint (l : Launch) (D : va_G) (cs : Nat → ClassId) (ad : Nat → Nat) (hi : mi ad) (I : Mm) (x1 : Int32) (ok : ok_X_checkpoint I x1) : MC l yX5_checkpoint wX5_checkpoint { frames := 3, cells := 0, slots := 0, locals := 72 } D cs ad [.ref (ad 75), .int x1] I (some (.int (f_X_checkpoint I x1).1)) (f_X_checkpoint I x1).2 := by
  unfold ok_X_checkpoint at ok
  refine q_enter (cc := cX5_checkpoint) (maxL := 3) (ret := (some .int)) (by decide +kernel) rfl (Nat.le_of_ble_eq_true rfl) ?_
  intro p e s m below meth c ls hx hb hr hml hown hts hlocks hK hP hS hl
  have hown : s.vm.findClass RX5 = some m.cls := hown
  have hts : ∀ w ∈ gtbl, w.before _ s = true := fun w h => hts w (List.mem_cons_of_mem _ h)
  have hl : lv_has ls 3 [(0, .ref (ad 75)), (1, .int x1)] := hl
  refine lv_iload_n hx hb dX5_checkpoint_0 rfl (lv_at hl 1 rfl) ?_
  refine q_callp (va_runS (As := [.int x1]) (rest := []) ⟨hx, hb, hml, hown, hts⟩ (c_X_isProcess l D cs ad hi I x1) (va_cwS 1 hts (gS k_332 k_333 k_6 k_334) rfl rfl rfl (by decide +kernel) ⟨Nat.le_of_ble_eq_true rfl, Nat.le_of_ble_eq_true rfl⟩) (q_preS hK hP) rfl rfl hl.1 rfl (lv_room (Nat.le_of_ble_eq_true rfl)) dX5_checkpoint_1 ⟨Nat.zero_le _, Nat.zero_le _⟩) hS (fun _ h => h) (fun H locs hP hS => ?_)
  refine lv_if_ne (tgt := 9) hx hb dX5_checkpoint_4 (by decide) (fun c1 => ?_) (fun c1 => ?_)
  · have ok := ok.2 c1
    refine lv_aload_n hx hb dX5_checkpoint_9 rfl (lv_at hl 0 rfl) ?_
    refine va_get (D := D) (ci := 5) (v := .ref (ad 80)) (C := RX5) (T := TX5) (N := 26) hx hb hts inX5 hown hK hP 75 (mq_X isO_75) rfl 4 (by decide) (hts _ k_279) (fun _ h9 => h9) rfl dX5_checkpoint_10 ?_
    refine lv_iload_n hx hb dX5_checkpoint_13 rfl (lv_at hl 1 rfl) ?_
    have g2 := ok.1
    have ok := ok.2
    refine va_zald hx hb hK hP 80 1 (mq_Z iZ_80) rfl g2 dX5_checkpoint_14 ?_
    refine lv_if_eq (tgt := 21) hx hb dX5_checkpoint_15 (by decide) (fun c3 => ?_) (fun c3 => ?_)
    · have ok := ok.1 c3
      refine lv_aload_n hx hb dX5_checkpoint_21 rfl (lv_at hl 0 rfl) ?_
      refine lv_iload_n hx hb dX5_checkpoint_22 rfl (lv_at hl 1 rfl) ?_
      have g4 := ok
      refine q_callv (va_runV (As := [.int x1]) (rest := []) ⟨hx, hb, hml, hown, hts⟩ (c_X_load l D cs ad hi I x1 g4) (cwV 1 hts (gV k_362 k_363 k_439 k_6 k_364) rfl rfl rfl (by decide +kernel) ⟨Nat.le_of_ble_eq_true rfl, Nat.le_of_ble_eq_true rfl⟩) (q_preV hK hP (va_recv hK hP (ci := 5) (q0 := 75) rfl (mq_X isO_75))) rfl rfl hl.1 rfl (lv_room (Nat.le_of_ble_eq_true rfl)) dX5_checkpoint_23 ⟨Nat.zero_le _, Nat.zero_le _⟩) hS (fun _ h => h) (fun H locs hP hS => ?_)
      refine lv_aload_n hx hb dX5_checkpoint_26 rfl (lv_at hl 0 rfl) ?_
      refine va_get (D := D) (ci := 5) (v := .int ((f_X_load I x1) 75 2)) (C := RX5) (T := TX5) (N := 26) hx hb hts inX5 hown hK hP 75 (mq_X isO_75) rfl 23 (by decide) (hts _ k_298) (fun _ h9 => h9) rfl dX5_checkpoint_27 ?_
      refine lv_aload_n hx hb dX5_checkpoint_30 rfl (lv_at hl 0 rfl) ?_
      refine va_get (D := D) (ci := 5) (v := .ref (ad 83)) (C := RX5) (T := TX5) (N := 26) hx hb hts inX5 hown hK hP 75 (mq_X isO_75) rfl 7 (by decide) (hts _ k_282) (fun _ h9 => h9) rfl dX5_checkpoint_31 ?_
      refine lv_iload_n hx hb dX5_checkpoint_34 rfl (lv_at hl 1 rfl) ?_
      refine va_iald hx hb hK hP 83 0 (mq_A iA_83) rfl g2 dX5_checkpoint_35 ?_
      refine lv_isub hx hb dX5_checkpoint_36 ?_
      refine lv_istore_n (lv' := [(2, .int (((f_X_load I x1) 75 2) - ((f_X_load I x1) 83 x1.toNatClampNeg))), (0, .ref (ad 75)), (1, .int x1)]) hx hb dX5_checkpoint_37 rfl hl (by decide) rfl (fun ls hl => ?_)
      refine lv_aload_n hx hb dX5_checkpoint_38 rfl (lv_at hl 1 rfl) ?_
      refine va_get (D := D) (ci := 5) (v := .ref (ad 82)) (C := RX5) (T := TX5) (N := 26) hx hb hts inX5 hown hK hP 75 (mq_X isO_75) rfl 6 (by decide) (hts _ k_281) (fun _ h9 => h9) rfl dX5_checkpoint_39 ?_
      refine lv_iload_n hx hb dX5_checkpoint_42 rfl (lv_at hl 2 rfl) ?_
      refine lv_aload_n hx hb dX5_checkpoint_43 rfl (lv_at hl 1 rfl) ?_
      refine va_get (D := D) (ci := 5) (v := .ref (ad 81)) (C := RX5) (T := TX5) (N := 26) hx hb hts inX5 hown hK hP 75 (mq_X isO_75) rfl 5 (by decide) (hts _ k_280) (fun _ h9 => h9) rfl dX5_checkpoint_44 ?_
      refine lv_iload_n hx hb dX5_checkpoint_47 rfl (lv_at hl 2 rfl) ?_
      refine va_iald hx hb hK hP 81 0 (mq_A iA_81) rfl g2 dX5_checkpoint_48 ?_
      refine va_iast hx hb hK hP (mD hi) hS 82 0 (mq_A iA_82) rfl g2 dX5_checkpoint_49 (fun H locs hP _ hS => ?_)
      have hP := ms_A iA_82 hP
      have hP : va_P D vwCl (mw 97 ad (gs cs ad (m_X_checkpoint_1 I x1))) H := hP
      refine lv_aload_n hx hb dX5_checkpoint_50 rfl (lv_at hl 1 rfl) ?_
      refine va_get (D := D) (ci := 5) (v := .ref (ad 83)) (C := RX5) (T := TX5) (N := 26) hx hb hts inX5 hown hK hP 75 (mq_X isO_75) rfl 7 (by decide) (hts _ k_282) (fun _ h9 => h9) rfl dX5_checkpoint_51 ?_
      refine lv_iload_n hx hb dX5_checkpoint_54 rfl (lv_at hl 2 rfl) ?_
      refine lv_aload_n hx hb dX5_checkpoint_55 rfl (lv_at hl 1 rfl) ?_
      refine va_get (D := D) (ci := 5) (v := .int ((m_X_checkpoint_1 I x1) 75 2)) (C := RX5) (T := TX5) (N := 26) hx hb hts inX5 hown hK hP 75 (mq_X isO_75) rfl 23 (by decide) (hts _ k_298) (fun _ h9 => h9) rfl dX5_checkpoint_56 ?_
      refine va_iast hx hb hK hP (mD hi) hS 83 0 (mq_A iA_83) rfl g2 dX5_checkpoint_59 (fun H locs hP _ hS => ?_)
      have hP := ms_A iA_83 hP
      have hP : va_P D vwCl (mw 97 ad (gs cs ad (m_X_checkpoint_2 I x1))) H := hP
      refine lv_iload_n hx hb dX5_checkpoint_60 rfl (lv_at hl 0 rfl) ?_
      exact q_iret hx hb hr hlocks dX5_checkpoint_61 hP hS (by rw [f_X_checkpoint, if_neg c1, if_pos c3])
    · have ok := ok.2 c3
      refine lv_bipush (v := (-2)) hx hb dX5_checkpoint_18 (by decide) ?_
      exact q_iret hx hb hr hlocks dX5_checkpoint_20 hP hS (by rw [f_X_checkpoint, if_neg c1, if_neg c3])
  · have ok := ok.1 c1
    refine lv_iconst (v := (-1)) hx hb dX5_checkpoint_7 (by decide) ?_
    exact q_iret hx hb hr hlocks dX5_checkpoint_8 hP hS (by rw [f_X_checkpoint, if_pos c1])
def f_X_register (I : Mm) (x1 x2 : Int32) : Int32 × Mm := (if (f_X_isProcess x1) = 0 then (0, I) else (if (f_X_isRegister x2) = 0 then (0, I) else (if (I 80 x1.toNatClampNeg) = 0 then ((f_X_load I x1) 95 x2.toNatClampNeg, (f_X_load I x1)) else (0, I))))
def ok_X_register (I : Mm) (x1 x2 : Int32) : Prop := ((f_X_isProcess x1) = 0 → True) ∧ (¬ (f_X_isProcess x1) = 0 → ((f_X_isRegister x2) = 0 → True) ∧ (¬ (f_X_isRegister x2) = 0 → vp_in x1 3 ∧ (((I 80 x1.toNatClampNeg) = 0 → ok_X_load I x1 ∧ (vp_in x2 4)) ∧ (¬ (I 80 x1.toNatClampNeg) = 0 → True))))
set_option maxHeartbeats 4000000 in
set_option maxRecDepth 100000 in
theorem c_X_register (l : Launch) (D : va_G) (cs : Nat → ClassId) (ad : Nat → Nat) (hi : mi ad) (I : Mm) (x1 x2 : Int32) (ok : ok_X_register I x1 x2) : MC l yX5_register wX5_register { frames := 3, cells := 0, slots := 0, locals := 72 } D cs ad [.ref (ad 75), .int x1, .int x2] I (some (.int (f_X_register I x1 x2).1)) (f_X_register I x1 x2).2 := by
  unfold ok_X_register at ok
  refine q_enter (cc := cX5_register) (maxL := 3) (ret := (some .int)) (by decide +kernel) rfl (Nat.le_of_ble_eq_true rfl) ?_
  intro p e s m below meth c ls hx hb hr hml hown hts hlocks hK hP hS hl
  have hown : s.vm.findClass RX5 = some m.cls := hown
  have hts : ∀ w ∈ gtbl, w.before _ s = true := fun w h => hts w (List.mem_cons_of_mem _ h)
  have hl : lv_has ls 3 [(0, .ref (ad 75)), (1, .int x1), (2, .int x2)] := hl
  refine lv_iload_n hx hb dX5_register_0 rfl (lv_at hl 1 rfl) ?_
  refine q_callp (va_runS (As := [.int x1]) (rest := []) ⟨hx, hb, hml, hown, hts⟩ (c_X_isProcess l D cs ad hi I x1) (va_cwS 1 hts (gS k_332 k_333 k_6 k_334) rfl rfl rfl (by decide +kernel) ⟨Nat.le_of_ble_eq_true rfl, Nat.le_of_ble_eq_true rfl⟩) (q_preS hK hP) rfl rfl hl.1 rfl (lv_room (Nat.le_of_ble_eq_true rfl)) dX5_register_1 ⟨Nat.zero_le _, Nat.zero_le _⟩) hS (fun _ h => h) (fun H locs hP hS => ?_)
  refine lv_if_eq (tgt := 23) hx hb dX5_register_4 (by decide) (fun c1 => ?_) (fun c1 => ?_)
  · have ok := ok.1 c1
    refine lv_iconst (v := 0) hx hb dX5_register_23 (by decide) ?_
    exact q_iret hx hb hr hlocks dX5_register_24 hP hS (by rw [f_X_register, if_pos c1])
  · have ok := ok.2 c1
    refine lv_iload_n hx hb dX5_register_7 rfl (lv_at hl 2 rfl) ?_
    refine q_callp (va_runS (As := [.int x2]) (rest := []) ⟨hx, hb, hml, hown, hts⟩ (c_X_isRegister l D cs ad hi I x2) (va_cwS 1 hts (gS k_338 k_339 k_6 k_340) rfl rfl rfl (by decide +kernel) ⟨Nat.le_of_ble_eq_true rfl, Nat.le_of_ble_eq_true rfl⟩) (q_preS hK hP) rfl rfl hl.1 rfl (lv_room (Nat.le_of_ble_eq_true rfl)) dX5_register_8 ⟨Nat.zero_le _, Nat.zero_le _⟩) hS (fun _ h => h) (fun H locs hP hS => ?_)
    refine lv_if_eq (tgt := 23) hx hb dX5_register_11 (by decide) (fun c2 => ?_) (fun c2 => ?_)
    · have ok := ok.1 c2
      refine lv_iconst (v := 0) hx hb dX5_register_23 (by decide) ?_
      exact q_iret hx hb hr hlocks dX5_register_24 hP hS (by rw [f_X_register, if_neg c1, if_pos c2])
    · have ok := ok.2 c2
      refine lv_aload_n hx hb dX5_register_14 rfl (lv_at hl 0 rfl) ?_
      refine va_get (D := D) (ci := 5) (v := .ref (ad 80)) (C := RX5) (T := TX5) (N := 26) hx hb hts inX5 hown hK hP 75 (mq_X isO_75) rfl 4 (by decide) (hts _ k_279) (fun _ h9 => h9) rfl dX5_register_15 ?_
      refine lv_iload_n hx hb dX5_register_18 rfl (lv_at hl 1 rfl) ?_
      have g3 := ok.1
      have ok := ok.2
      refine va_zald hx hb hK hP 80 1 (mq_Z iZ_80) rfl g3 dX5_register_19 ?_
      refine lv_if_eq (tgt := 25) hx hb dX5_register_20 (by decide) (fun c4 => ?_) (fun c4 => ?_)
      · have ok := ok.1 c4
        refine lv_aload_n hx hb dX5_register_25 rfl (lv_at hl 0 rfl) ?_
        refine lv_iload_n hx hb dX5_register_26 rfl (lv_at hl 1 rfl) ?_
        have g5 := ok.1
        have ok := ok.2
        refine q_callv (va_runV (As := [.int x1]) (rest := []) ⟨hx, hb, hml, hown, hts⟩ (c_X_load l D cs ad hi I x1 g5) (cwV 1 hts (gV k_362 k_363 k_439 k_6 k_364) rfl rfl rfl (by decide +kernel) ⟨Nat.le_of_ble_eq_true rfl, Nat.le_of_ble_eq_true rfl⟩) (q_preV hK hP (va_recv hK hP (ci := 5) (q0 := 75) rfl (mq_X isO_75))) rfl rfl hl.1 rfl (lv_room (Nat.le_of_ble_eq_true rfl)) dX5_register_27 ⟨Nat.zero_le _, Nat.zero_le _⟩) hS (fun _ h => h) (fun H locs hP hS => ?_)
        refine lv_aload_n hx hb dX5_register_30 rfl (lv_at hl 0 rfl) ?_
        refine va_get (D := D) (ci := 5) (v := .ref (ad 95)) (C := RX5) (T := TX5) (N := 26) hx hb hts inX5 hown hK hP 75 (mq_X isO_75) rfl 20 (by decide) (hts _ k_295) (fun _ h9 => h9) rfl dX5_register_31 ?_
        refine lv_iload_n hx hb dX5_register_34 rfl (lv_at hl 2 rfl) ?_
        have g6 := ok
        refine va_iald hx hb hK hP 95 0 (mq_A iA_95) rfl g6 dX5_register_35 ?_
        exact q_iret hx hb hr hlocks dX5_register_36 hP hS (by rw [f_X_register, if_neg c1, if_neg c2, if_pos c4])
      · have ok := ok.2 c4
        refine lv_iconst (v := 0) hx hb dX5_register_23 (by decide) ?_
        exact q_iret hx hb hr hlocks dX5_register_24 hP hS (by rw [f_X_register, if_neg c1, if_neg c2, if_neg c4])
def f_X_state (I : Mm) (x1 x2 : Int32) : Int32 × Mm := (if (f_X_isProcess x1) = 0 then ((-1), I) else (if x2 < 0 then ((-1), I) else (if x2 ≤ 3 then (if (I 80 x1.toNatClampNeg) = 0 then (if x2 = 0 then ((f_X_load I x1) 75 1, (f_X_load I x1)) else (if x2 = 1 then ((f_X_load I x1) 75 4, (f_X_load I x1)) else (if x2 = 2 then ((f_X_load I x1) 75 2, (f_X_load I x1)) else ((f_X_load I x1) 75 3, (f_X_load I x1))))) else ((-2), I)) else ((-1), I))))
def ok_X_state (I : Mm) (x1 x2 : Int32) : Prop := ((f_X_isProcess x1) = 0 → True) ∧ (¬ (f_X_isProcess x1) = 0 → (x2 < 0 → True) ∧ (¬ x2 < 0 → (x2 ≤ 3 → vp_in x1 3 ∧ (((I 80 x1.toNatClampNeg) = 0 → ok_X_load I x1) ∧ (¬ (I 80 x1.toNatClampNeg) = 0 → True))) ∧ (¬ x2 ≤ 3 → True)))
set_option maxHeartbeats 4000000 in
set_option maxRecDepth 100000 in
theorem c_X_state (l : Launch) (D : va_G) (cs : Nat → ClassId) (ad : Nat → Nat) (hi : mi ad) (I : Mm) (x1 x2 : Int32) (ok : ok_X_state I x1 x2) : MC l yX5_state wX5_state { frames := 3, cells := 0, slots := 0, locals := 72 } D cs ad [.ref (ad 75), .int x1, .int x2] I (some (.int (f_X_state I x1 x2).1)) (f_X_state I x1 x2).2 := by
  unfold ok_X_state at ok
  refine q_enter (cc := cX5_state) (maxL := 3) (ret := (some .int)) (by decide +kernel) rfl (Nat.le_of_ble_eq_true rfl) ?_
  intro p e s m below meth c ls hx hb hr hml hown hts hlocks hK hP hS hl
  have hown : s.vm.findClass RX5 = some m.cls := hown
  have hts : ∀ w ∈ gtbl, w.before _ s = true := fun w h => hts w (List.mem_cons_of_mem _ h)
  have hl : lv_has ls 3 [(0, .ref (ad 75)), (1, .int x1), (2, .int x2)] := hl
  refine lv_iload_n hx hb dX5_state_0 rfl (lv_at hl 1 rfl) ?_
  refine q_callp (va_runS (As := [.int x1]) (rest := []) ⟨hx, hb, hml, hown, hts⟩ (c_X_isProcess l D cs ad hi I x1) (va_cwS 1 hts (gS k_332 k_333 k_6 k_334) rfl rfl rfl (by decide +kernel) ⟨Nat.le_of_ble_eq_true rfl, Nat.le_of_ble_eq_true rfl⟩) (q_preS hK hP) rfl rfl hl.1 rfl (lv_room (Nat.le_of_ble_eq_true rfl)) dX5_state_1 ⟨Nat.zero_le _, Nat.zero_le _⟩) hS (fun _ h => h) (fun H locs hP hS => ?_)
  refine lv_if_eq (tgt := 16) hx hb dX5_state_4 (by decide) (fun c1 => ?_) (fun c1 => ?_)
  · have ok := ok.1 c1
    refine lv_iconst (v := (-1)) hx hb dX5_state_16 (by decide) ?_
    exact q_iret hx hb hr hlocks dX5_state_17 hP hS (by rw [f_X_state, if_pos c1])
  · have ok := ok.2 c1
    refine lv_iload_n hx hb dX5_state_7 rfl (lv_at hl 2 rfl) ?_
    refine lv_if_lt (tgt := 16) hx hb dX5_state_8 (by decide) (fun c2 => ?_) (fun c2 => ?_)
    · have ok := ok.1 c2
      refine lv_iconst (v := (-1)) hx hb dX5_state_16 (by decide) ?_
      exact q_iret hx hb hr hlocks dX5_state_17 hP hS (by rw [f_X_state, if_neg c1, if_pos c2])
    · have ok := ok.2 c2
      refine lv_iload_n hx hb dX5_state_11 rfl (lv_at hl 2 rfl) ?_
      refine lv_iconst (v := 3) hx hb dX5_state_12 (by decide) ?_
      refine lv_icmp_le (tgt := 18) hx hb dX5_state_13 (by decide) (fun c3 => ?_) (fun c3 => ?_)
      · have ok := ok.1 c3
        refine lv_aload_n hx hb dX5_state_18 rfl (lv_at hl 0 rfl) ?_
        refine va_get (D := D) (ci := 5) (v := .ref (ad 80)) (C := RX5) (T := TX5) (N := 26) hx hb hts inX5 hown hK hP 75 (mq_X isO_75) rfl 4 (by decide) (hts _ k_279) (fun _ h9 => h9) rfl dX5_state_19 ?_
        refine lv_iload_n hx hb dX5_state_22 rfl (lv_at hl 1 rfl) ?_
        have g4 := ok.1
        have ok := ok.2
        refine va_zald hx hb hK hP 80 1 (mq_Z iZ_80) rfl g4 dX5_state_23 ?_
        refine lv_if_eq (tgt := 30) hx hb dX5_state_24 (by decide) (fun c5 => ?_) (fun c5 => ?_)
        · have ok := ok.1 c5
          refine lv_aload_n hx hb dX5_state_30 rfl (lv_at hl 0 rfl) ?_
          refine lv_iload_n hx hb dX5_state_31 rfl (lv_at hl 1 rfl) ?_
          have g6 := ok
          refine q_callv (va_runV (As := [.int x1]) (rest := []) ⟨hx, hb, hml, hown, hts⟩ (c_X_load l D cs ad hi I x1 g6) (cwV 1 hts (gV k_362 k_363 k_439 k_6 k_364) rfl rfl rfl (by decide +kernel) ⟨Nat.le_of_ble_eq_true rfl, Nat.le_of_ble_eq_true rfl⟩) (q_preV hK hP (va_recv hK hP (ci := 5) (q0 := 75) rfl (mq_X isO_75))) rfl rfl hl.1 rfl (lv_room (Nat.le_of_ble_eq_true rfl)) dX5_state_32 ⟨Nat.zero_le _, Nat.zero_le _⟩) hS (fun _ h => h) (fun H locs hP hS => ?_)
          refine lv_iload_n hx hb dX5_state_35 rfl (lv_at hl 2 rfl) ?_
          refine lv_if_ne (tgt := 46) hx hb dX5_state_36 (by decide) (fun c7 => ?_) (fun c7 => ?_)
          · have c7 := c7
            refine lv_iload_n hx hb dX5_state_46 rfl (lv_at hl 2 rfl) ?_
            refine lv_iconst (v := 1) hx hb dX5_state_47 (by decide) ?_
            refine lv_icmp_ne (tgt := 58) hx hb dX5_state_48 (by decide) (fun c8 => ?_) (fun c8 => ?_)
            · have c8 := c8
              refine lv_iload_n hx hb dX5_state_58 rfl (lv_at hl 2 rfl) ?_
              refine lv_iconst (v := 2) hx hb dX5_state_59 (by decide) ?_
              refine lv_icmp_ne (tgt := 70) hx hb dX5_state_60 (by decide) (fun c9 => ?_) (fun c9 => ?_)
              · have c9 := c9
                refine lv_aload_n hx hb dX5_state_70 rfl (lv_at hl 0 rfl) ?_
                refine va_get (D := D) (ci := 5) (v := .int ((f_X_load I x1) 75 3)) (C := RX5) (T := TX5) (N := 26) hx hb hts inX5 hown hK hP 75 (mq_X isO_75) rfl 24 (by decide) (hts _ k_299) (fun _ h9 => h9) rfl dX5_state_71 ?_
                exact q_iret hx hb hr hlocks dX5_state_74 hP hS (by rw [f_X_state, if_neg c1, if_neg c2, if_pos c3, if_pos c5, if_neg c7, if_neg c8, if_neg c9])
              · have c9 := c9
                refine lv_aload_n hx hb dX5_state_63 rfl (lv_at hl 0 rfl) ?_
                refine va_get (D := D) (ci := 5) (v := .int ((f_X_load I x1) 75 2)) (C := RX5) (T := TX5) (N := 26) hx hb hts inX5 hown hK hP 75 (mq_X isO_75) rfl 23 (by decide) (hts _ k_298) (fun _ h9 => h9) rfl dX5_state_64 ?_
                refine lv_goto (tgt := 74) hx hb dX5_state_67 (by decide) ?_
                exact q_iret hx hb hr hlocks dX5_state_74 hP hS (by rw [f_X_state, if_neg c1, if_neg c2, if_pos c3, if_pos c5, if_neg c7, if_neg c8, if_pos c9])
            · have c8 := c8
              refine lv_aload_n hx hb dX5_state_51 rfl (lv_at hl 0 rfl) ?_
              refine va_get (D := D) (ci := 5) (v := .int ((f_X_load I x1) 75 4)) (C := RX5) (T := TX5) (N := 26) hx hb hts inX5 hown hK hP 75 (mq_X isO_75) rfl 25 (by decide) (hts _ k_300) (fun _ h9 => h9) rfl dX5_state_52 ?_
              refine lv_goto (tgt := 74) hx hb dX5_state_55 (by decide) ?_
              exact q_iret hx hb hr hlocks dX5_state_74 hP hS (by rw [f_X_state, if_neg c1, if_neg c2, if_pos c3, if_pos c5, if_neg c7, if_pos c8])
          · have c7 := c7
            refine lv_aload_n hx hb dX5_state_39 rfl (lv_at hl 0 rfl) ?_
            refine va_get (D := D) (ci := 5) (v := .int ((f_X_load I x1) 75 1)) (C := RX5) (T := TX5) (N := 26) hx hb hts inX5 hown hK hP 75 (mq_X isO_75) rfl 22 (by decide) (hts _ k_297) (fun _ h9 => h9) rfl dX5_state_40 ?_
            refine lv_goto (tgt := 74) hx hb dX5_state_43 (by decide) ?_
            exact q_iret hx hb hr hlocks dX5_state_74 hP hS (by rw [f_X_state, if_neg c1, if_neg c2, if_pos c3, if_pos c5, if_pos c7])
        · have ok := ok.2 c5
          refine lv_bipush (v := (-2)) hx hb dX5_state_27 (by decide) ?_
          exact q_iret hx hb hr hlocks dX5_state_29 hP hS (by rw [f_X_state, if_neg c1, if_neg c2, if_pos c3, if_neg c5])
      · have ok := ok.2 c3
        refine lv_iconst (v := (-1)) hx hb dX5_state_16 (by decide) ?_
        exact q_iret hx hb hr hlocks dX5_state_17 hP hS (by rw [f_X_state, if_neg c1, if_neg c2, if_neg c3])
def f_X_sent (I : Mm) (x1 x2 : Int32) : Int32 × Mm := (if (f_X_isChannel x1 x2) = 0 then ((-1), I) else (if (I 80 x1.toNatClampNeg) = 0 then ((f_X_load I x1) 96 x2.toNatClampNeg, (f_X_load I x1)) else ((-2), I)))
def ok_X_sent (I : Mm) (x1 x2 : Int32) : Prop := ((f_X_isChannel x1 x2) = 0 → True) ∧ (¬ (f_X_isChannel x1 x2) = 0 → vp_in x1 3 ∧ (((I 80 x1.toNatClampNeg) = 0 → ok_X_load I x1 ∧ (vp_in x2 3)) ∧ (¬ (I 80 x1.toNatClampNeg) = 0 → True)))
set_option maxHeartbeats 4000000 in
set_option maxRecDepth 100000 in
theorem c_X_sent (l : Launch) (D : va_G) (cs : Nat → ClassId) (ad : Nat → Nat) (hi : mi ad) (I : Mm) (x1 x2 : Int32) (ok : ok_X_sent I x1 x2) : MC l yX5_sent wX5_sent { frames := 3, cells := 0, slots := 0, locals := 72 } D cs ad [.ref (ad 75), .int x1, .int x2] I (some (.int (f_X_sent I x1 x2).1)) (f_X_sent I x1 x2).2 := by
  unfold ok_X_sent at ok
  refine q_enter (cc := cX5_sent) (maxL := 3) (ret := (some .int)) (by decide +kernel) rfl (Nat.le_of_ble_eq_true rfl) ?_
  intro p e s m below meth c ls hx hb hr hml hown hts hlocks hK hP hS hl
  have hown : s.vm.findClass RX5 = some m.cls := hown
  have hts : ∀ w ∈ gtbl, w.before _ s = true := fun w h => hts w (List.mem_cons_of_mem _ h)
  have hl : lv_has ls 3 [(0, .ref (ad 75)), (1, .int x1), (2, .int x2)] := hl
  refine lv_iload_n hx hb dX5_sent_0 rfl (lv_at hl 1 rfl) ?_
  refine lv_iload_n hx hb dX5_sent_1 rfl (lv_at hl 2 rfl) ?_
  refine q_callp (va_runS (As := [.int x1, .int x2]) (rest := []) ⟨hx, hb, hml, hown, hts⟩ (c_X_isChannel l D cs ad hi I x1 x2) (va_cwS 2 hts (gS k_335 k_336 k_6 k_337) rfl rfl rfl (by decide +kernel) ⟨Nat.le_of_ble_eq_true rfl, Nat.le_of_ble_eq_true rfl⟩) (q_preS hK hP) rfl rfl hl.1 rfl (lv_room (Nat.le_of_ble_eq_true rfl)) dX5_sent_2 ⟨Nat.zero_le _, Nat.zero_le _⟩) hS (fun _ h => h) (fun H locs hP hS => ?_)
  refine lv_if_ne (tgt := 10) hx hb dX5_sent_5 (by decide) (fun c1 => ?_) (fun c1 => ?_)
  · have ok := ok.2 c1
    refine lv_aload_n hx hb dX5_sent_10 rfl (lv_at hl 0 rfl) ?_
    refine va_get (D := D) (ci := 5) (v := .ref (ad 80)) (C := RX5) (T := TX5) (N := 26) hx hb hts inX5 hown hK hP 75 (mq_X isO_75) rfl 4 (by decide) (hts _ k_279) (fun _ h9 => h9) rfl dX5_sent_11 ?_
    refine lv_iload_n hx hb dX5_sent_14 rfl (lv_at hl 1 rfl) ?_
    have g2 := ok.1
    have ok := ok.2
    refine va_zald hx hb hK hP 80 1 (mq_Z iZ_80) rfl g2 dX5_sent_15 ?_
    refine lv_if_eq (tgt := 22) hx hb dX5_sent_16 (by decide) (fun c3 => ?_) (fun c3 => ?_)
    · have ok := ok.1 c3
      refine lv_aload_n hx hb dX5_sent_22 rfl (lv_at hl 0 rfl) ?_
      refine lv_iload_n hx hb dX5_sent_23 rfl (lv_at hl 1 rfl) ?_
      have g4 := ok.1
      have ok := ok.2
      refine q_callv (va_runV (As := [.int x1]) (rest := []) ⟨hx, hb, hml, hown, hts⟩ (c_X_load l D cs ad hi I x1 g4) (cwV 1 hts (gV k_362 k_363 k_439 k_6 k_364) rfl rfl rfl (by decide +kernel) ⟨Nat.le_of_ble_eq_true rfl, Nat.le_of_ble_eq_true rfl⟩) (q_preV hK hP (va_recv hK hP (ci := 5) (q0 := 75) rfl (mq_X isO_75))) rfl rfl hl.1 rfl (lv_room (Nat.le_of_ble_eq_true rfl)) dX5_sent_24 ⟨Nat.zero_le _, Nat.zero_le _⟩) hS (fun _ h => h) (fun H locs hP hS => ?_)
      refine lv_aload_n hx hb dX5_sent_27 rfl (lv_at hl 0 rfl) ?_
      refine va_get (D := D) (ci := 5) (v := .ref (ad 96)) (C := RX5) (T := TX5) (N := 26) hx hb hts inX5 hown hK hP 75 (mq_X isO_75) rfl 21 (by decide) (hts _ k_296) (fun _ h9 => h9) rfl dX5_sent_28 ?_
      refine lv_iload_n hx hb dX5_sent_31 rfl (lv_at hl 2 rfl) ?_
      have g5 := ok
      refine va_iald hx hb hK hP 96 0 (mq_A iA_96) rfl g5 dX5_sent_32 ?_
      exact q_iret hx hb hr hlocks dX5_sent_33 hP hS (by rw [f_X_sent, if_neg c1, if_pos c3])
    · have ok := ok.2 c3
      refine lv_bipush (v := (-2)) hx hb dX5_sent_19 (by decide) ?_
      exact q_iret hx hb hr hlocks dX5_sent_21 hP hS (by rw [f_X_sent, if_neg c1, if_neg c3])
  · have ok := ok.1 c1
    refine lv_iconst (v := (-1)) hx hb dX5_sent_8 (by decide) ?_
    exact q_iret hx hb hr hlocks dX5_sent_9 hP hS (by rw [f_X_sent, if_pos c1])
def l_X_run : Nat → Mm → Int32 → Int32 → Int32 → Int32 × Mm
  | 0, J, _, _, _ => (0, J)
  | n + 1, J, x1, x2, x3 => (if x2 ≤ x3 then (x3, J) else (if ((f_X_go J x1 0).1) = 1 then (l_X_run n ((f_X_go J x1 0).2) x1 x2 (x3 + 1)) else (x3, (f_X_go J x1 0).2)))
def okl_X_run : Nat → Mm → Int32 → Int32 → Int32 → Prop
  | 0, _, _, _, _ => False
  | n + 1, J, x1, x2, x3 => (x2 ≤ x3 → True) ∧ (¬ x2 ≤ x3 → ok_X_go J x1 0 ∧ ((((f_X_go J x1 0).1) = 1 → okl_X_run n ((f_X_go J x1 0).2) x1 x2 (x3 + 1)) ∧ (¬ ((f_X_go J x1 0).1) = 1 → True)))
set_option maxHeartbeats 4000000 in
set_option maxRecDepth 100000 in
theorem w_X_run (l : Launch) (D : va_G) (cs : Nat → ClassId) (ad : Nat → Nat) (hi : mi ad) {p : Program} {e : Env} {s : State} {m : MethodId} {args : Array Value} {below : List Frame} {meth : Method} {c : Code} {Q : State → Prop} (x1 x2 : Int32) (hx : p.tables.exec = Jvm.exec) (hb : c.code = cX5_run) (hml : c.maxLocals = 4) (hown : s.vm.findClass RX5 = some m.cls) (hts : ∀ w ∈ gtbl, w.before args s = true) (hK : va_K D vwCl (tyl cs) s) : ∀ (n : Nat) (J : Mm) (x3 : Int32) (H : Heap) (locs : List Loc) (ls : Array Slot), okl_X_run n J x1 x2 x3 → va_P D vwCl (mw 97 ad (gs cs ad J)) H → va_S (mA ad) s.heap H locs → lv_has ls 4 [(3, .int x3), (0, .ref (ad 75)), (1, .int x1), (2, .int x2)] → (∀ (H : Heap) (locs : List Loc) (ls : Array Slot), va_P D vwCl (mw 97 ad (gs cs ad (l_X_run n J x1 x2 x3).2)) H → va_S (mA ad) s.heap H locs → lv_has ls 4 [(3, .int (l_X_run n J x1 x2 x3).1), (0, .ref (ad 75)), (1, .int x1), (2, .int x2)] → W p l e { frames := 3, cells := 0, slots := 0, locals := 72 } s m args below meth c H locs 0 0 Q (F0 m 60 ls [])) → W p l e { frames := 3, cells := 0, slots := 0, locals := 72 } s m args below meth c H locs 0 0 Q (F0 m 39 ls []) := by
  intro n
  induction n with
  | zero =>
    intro J x3 H locs ls ok hP hS hl kk
    exact absurd ok id
  | succ n ih =>
    intro J x3 H locs ls ok hP hS hl kk
    rw [okl_X_run] at ok
    refine lv_iload_n hx hb dX5_run_39 rfl (lv_at hl 0 rfl) ?_
    refine lv_iload_n hx hb dX5_run_40 rfl (lv_at hl 3 rfl) ?_
    refine lv_icmp_ge (tgt := 60) hx hb dX5_run_41 (by decide) (fun c1 => ?_) (fun c1 => ?_)
    · have ok := ok.1 c1
      have e9 : l_X_run (n + 1) J x1 x2 x3 = (x3, J) := (by rw [l_X_run, if_pos c1])
      rw [e9] at kk
      exact kk _ _ _ hP hS (lv_sub hl [0, 1, 2, 3] rfl)
    · have ok := ok.2 c1
      refine lv_aload_n hx hb dX5_run_44 rfl (lv_at hl 1 rfl) ?_
      refine lv_iload_n hx hb dX5_run_45 rfl (lv_at hl 2 rfl) ?_
      refine lv_iconst (v := 0) hx hb dX5_run_46 (by decide) ?_
      have g2 := ok.1
      have ok := ok.2
      refine q_calli (va_runV (As := [.int x1, .int 0]) (rest := []) ⟨hx, hb, hml, hown, hts⟩ (c_X_go l D cs ad hi J x1 0 g2) (cwV 2 hts (gV k_365 k_366 k_440 k_6 k_367) rfl rfl rfl (by decide +kernel) ⟨Nat.le_of_ble_eq_true rfl, Nat.le_of_ble_eq_true rfl⟩) (q_preV hK hP (va_recv hK hP (ci := 5) (q0 := 75) rfl (mq_X isO_75))) rfl rfl hl.1 rfl (lv_room (Nat.le_of_ble_eq_true rfl)) dX5_run_47 ⟨Nat.zero_le _, Nat.zero_le _⟩) hS (fun _ h => h) (fun H locs hP hS => ?_)
      refine lv_iconst (v := 1) hx hb dX5_run_50 (by decide) ?_
      refine lv_icmp_ne (tgt := 60) hx hb dX5_run_51 (by decide) (fun c3 => ?_) (fun c3 => ?_)
      · have ok := ok.2 c3
        have e9 : l_X_run (n + 1) J x1 x2 x3 = (x3, (f_X_go J x1 0).2) := (by rw [l_X_run, if_neg c1, if_neg c3])
        rw [e9] at kk
        exact kk _ _ _ hP hS (lv_sub hl [0, 1, 2, 3] rfl)
      · have ok := ok.1 c3
        refine lv_iinc (v := x3 + 1) (lv' := [(3, .int (x3 + 1)), (0, .ref (ad 75)), (1, .int x1), (2, .int x2)]) hx hb dX5_run_54 hl (k := 0) rfl rfl (by decide) rfl (fun ls hl => ?_)
        refine lv_goto (tgt := 39) hx hb dX5_run_57 (by decide) ?_
        have e9 : l_X_run (n + 1) J x1 x2 x3 = l_X_run n ((f_X_go J x1 0).2) x1 x2 (x3 + 1) := (by rw [l_X_run, if_neg c1, if_pos c3])
        rw [e9] at kk
        exact ih ((f_X_go J x1 0).2) (x3 + 1) _ _ _ ok hP hS (lv_sub hl [0, 1, 2, 3] rfl) kk
def m_X_run_1 (I : Mm) (x1 x2 : Int32) : Mm := u2 ((l_X_run 101 (f_X_load I x1) x1 x2 0).2) 81 x1.toNatClampNeg ((((l_X_run 101 (f_X_load I x1) x1 x2 0).2) 81 x1.toNatClampNeg) + ((l_X_run 101 (f_X_load I x1) x1 x2 0).1))
def m_X_run_2 (I : Mm) (x1 x2 : Int32) : Mm := u2 (m_X_run_1 I x1 x2) 84 x1.toNatClampNeg (vp_nar .boolean 1)
def m_X_run_3 (I : Mm) (x1 x2 : Int32) : Mm := u2 (m_X_run_1 I x1 x2) 84 x1.toNatClampNeg (vp_nar .boolean 0)
def f_X_run (I : Mm) (x1 x2 : Int32) : Int32 × Mm := (if (f_X_isProcess x1) = 0 then ((-1), I) else (if x2 < 1 then ((-1), I) else (if x2 ≤ 100 then (if (I 80 x1.toNatClampNeg) = 0 then (if ((m_X_run_1 I x1 x2) 84 x1.toNatClampNeg) = 0 then (if ((l_X_run 101 (f_X_load I x1) x1 x2 0).1) ≤ 0 then ((l_X_run 101 (f_X_load I x1) x1 x2 0).1, (m_X_run_3 I x1 x2)) else ((l_X_run 101 (f_X_load I x1) x1 x2 0).1, (m_X_run_2 I x1 x2))) else ((l_X_run 101 (f_X_load I x1) x1 x2 0).1, (m_X_run_2 I x1 x2))) else ((-2), I)) else ((-1), I))))
def ok_X_run (I : Mm) (x1 x2 : Int32) : Prop := ((f_X_isProcess x1) = 0 → True) ∧ (¬ (f_X_isProcess x1) = 0 → (x2 < 1 → True) ∧ (¬ x2 < 1 → (x2 ≤ 100 → vp_in x1 3 ∧ (((I 80 x1.toNatClampNeg) = 0 → ok_X_load I x1 ∧ (okl_X_run 101 (f_X_load I x1) x1 x2 0 ∧ (vp_in x1 3))) ∧ (¬ (I 80 x1.toNatClampNeg) = 0 → True))) ∧ (¬ x2 ≤ 100 → True)))
set_option maxHeartbeats 4000000 in
set_option maxRecDepth 100000 in
theorem c_X_run (l : Launch) (D : va_G) (cs : Nat → ClassId) (ad : Nat → Nat) (hi : mi ad) (I : Mm) (x1 x2 : Int32) (ok : ok_X_run I x1 x2) : MC l yX5_run wX5_run { frames := 3, cells := 0, slots := 0, locals := 72 } D cs ad [.ref (ad 75), .int x1, .int x2] I (some (.int (f_X_run I x1 x2).1)) (f_X_run I x1 x2).2 := by
  unfold ok_X_run at ok
  refine q_enter (cc := cX5_run) (maxL := 4) (ret := (some .int)) (by decide +kernel) rfl (Nat.le_of_ble_eq_true rfl) ?_
  intro p e s m below meth c ls hx hb hr hml hown hts hlocks hK hP hS hl
  have hown : s.vm.findClass RX5 = some m.cls := hown
  have hts : ∀ w ∈ gtbl, w.before _ s = true := fun w h => hts w (List.mem_cons_of_mem _ h)
  have hl : lv_has ls 4 [(0, .ref (ad 75)), (1, .int x1), (2, .int x2)] := hl
  refine lv_iload_n hx hb dX5_run_0 rfl (lv_at hl 1 rfl) ?_
  refine q_callp (va_runS (As := [.int x1]) (rest := []) ⟨hx, hb, hml, hown, hts⟩ (c_X_isProcess l D cs ad hi I x1) (va_cwS 1 hts (gS k_332 k_333 k_6 k_334) rfl rfl rfl (by decide +kernel) ⟨Nat.le_of_ble_eq_true rfl, Nat.le_of_ble_eq_true rfl⟩) (q_preS hK hP) rfl rfl hl.1 rfl (lv_room (Nat.le_of_ble_eq_true rfl)) dX5_run_1 ⟨Nat.zero_le _, Nat.zero_le _⟩) hS (fun _ h => h) (fun H locs hP hS => ?_)
  refine lv_if_eq (tgt := 18) hx hb dX5_run_4 (by decide) (fun c1 => ?_) (fun c1 => ?_)
  · have ok := ok.1 c1
    refine lv_iconst (v := (-1)) hx hb dX5_run_18 (by decide) ?_
    exact q_iret hx hb hr hlocks dX5_run_19 hP hS (by rw [f_X_run, if_pos c1])
  · have ok := ok.2 c1
    refine lv_iload_n hx hb dX5_run_7 rfl (lv_at hl 2 rfl) ?_
    refine lv_iconst (v := 1) hx hb dX5_run_8 (by decide) ?_
    refine lv_icmp_lt (tgt := 18) hx hb dX5_run_9 (by decide) (fun c2 => ?_) (fun c2 => ?_)
    · have ok := ok.1 c2
      refine lv_iconst (v := (-1)) hx hb dX5_run_18 (by decide) ?_
      exact q_iret hx hb hr hlocks dX5_run_19 hP hS (by rw [f_X_run, if_neg c1, if_pos c2])
    · have ok := ok.2 c2
      refine lv_iload_n hx hb dX5_run_12 rfl (lv_at hl 2 rfl) ?_
      refine lv_bipush (v := 100) hx hb dX5_run_13 (by decide) ?_
      refine lv_icmp_le (tgt := 20) hx hb dX5_run_15 (by decide) (fun c3 => ?_) (fun c3 => ?_)
      · have ok := ok.1 c3
        refine lv_aload_n hx hb dX5_run_20 rfl (lv_at hl 0 rfl) ?_
        refine va_get (D := D) (ci := 5) (v := .ref (ad 80)) (C := RX5) (T := TX5) (N := 26) hx hb hts inX5 hown hK hP 75 (mq_X isO_75) rfl 4 (by decide) (hts _ k_279) (fun _ h9 => h9) rfl dX5_run_21 ?_
        refine lv_iload_n hx hb dX5_run_24 rfl (lv_at hl 1 rfl) ?_
        have g4 := ok.1
        have ok := ok.2
        refine va_zald hx hb hK hP 80 1 (mq_Z iZ_80) rfl g4 dX5_run_25 ?_
        refine lv_if_eq (tgt := 32) hx hb dX5_run_26 (by decide) (fun c5 => ?_) (fun c5 => ?_)
        · have ok := ok.1 c5
          refine lv_aload_n hx hb dX5_run_32 rfl (lv_at hl 0 rfl) ?_
          refine lv_iload_n hx hb dX5_run_33 rfl (lv_at hl 1 rfl) ?_
          have g6 := ok.1
          have ok := ok.2
          refine q_callv (va_runV (As := [.int x1]) (rest := []) ⟨hx, hb, hml, hown, hts⟩ (c_X_load l D cs ad hi I x1 g6) (cwV 1 hts (gV k_362 k_363 k_439 k_6 k_364) rfl rfl rfl (by decide +kernel) ⟨Nat.le_of_ble_eq_true rfl, Nat.le_of_ble_eq_true rfl⟩) (q_preV hK hP (va_recv hK hP (ci := 5) (q0 := 75) rfl (mq_X isO_75))) rfl rfl hl.1 rfl (lv_room (Nat.le_of_ble_eq_true rfl)) dX5_run_34 ⟨Nat.zero_le _, Nat.zero_le _⟩) hS (fun _ h => h) (fun H locs hP hS => ?_)
          refine lv_iconst (v := 0) hx hb dX5_run_37 (by decide) ?_
          refine lv_istore_n (lv' := [(3, .int 0), (0, .ref (ad 75)), (1, .int x1), (2, .int x2)]) hx hb dX5_run_38 rfl hl (by decide) rfl (fun ls hl => ?_)
          have g7 := ok.1
          have ok := ok.2
          refine w_X_run l D cs ad hi x1 x2 hx hb hml hown hts hK 101 (f_X_load I x1) 0 _ _ _ g7 hP hS (lv_sub hl [0, 1, 2, 3] rfl) (fun H locs ls hP hS hl => ?_)
          refine lv_aload_n hx hb dX5_run_60 rfl (lv_at hl 1 rfl) ?_
          refine va_get (D := D) (ci := 5) (v := .ref (ad 81)) (C := RX5) (T := TX5) (N := 26) hx hb hts inX5 hown hK hP 75 (mq_X isO_75) rfl 5 (by decide) (hts _ k_280) (fun _ h9 => h9) rfl dX5_run_61 ?_
          refine lv_iload_n hx hb dX5_run_64 rfl (lv_at hl 2 rfl) ?_
          refine lv_dup2_11 hx hb dX5_run_65 rfl rfl ?_
          have g8 := ok
          refine va_iald hx hb hK hP 81 0 (mq_A iA_81) rfl g8 dX5_run_66 ?_
          refine lv_iload_n hx hb dX5_run_67 rfl (lv_at hl 0 rfl) ?_
          refine lv_iadd hx hb dX5_run_68 ?_
          refine va_iast hx hb hK hP (mD hi) hS 81 0 (mq_A iA_81) rfl g8 dX5_run_69 (fun H locs hP _ hS => ?_)
          have hP := ms_A iA_81 hP
          have hP : va_P D vwCl (mw 97 ad (gs cs ad (m_X_run_1 I x1 x2))) H := hP
          refine lv_aload_n hx hb dX5_run_70 rfl (lv_at hl 1 rfl) ?_
          refine va_get (D := D) (ci := 5) (v := .ref (ad 84)) (C := RX5) (T := TX5) (N := 26) hx hb hts inX5 hown hK hP 75 (mq_X isO_75) rfl 8 (by decide) (hts _ k_283) (fun _ h9 => h9) rfl dX5_run_71 ?_
          refine lv_iload_n hx hb dX5_run_74 rfl (lv_at hl 2 rfl) ?_
          refine lv_aload_n hx hb dX5_run_75 rfl (lv_at hl 1 rfl) ?_
          refine va_get (D := D) (ci := 5) (v := .ref (ad 84)) (C := RX5) (T := TX5) (N := 26) hx hb hts inX5 hown hK hP 75 (mq_X isO_75) rfl 8 (by decide) (hts _ k_283) (fun _ h9 => h9) rfl dX5_run_76 ?_
          refine lv_iload_n hx hb dX5_run_79 rfl (lv_at hl 2 rfl) ?_
          refine va_zald hx hb hK hP 84 1 (mq_Z iZ_84) rfl g8 dX5_run_80 ?_
          refine lv_if_ne (tgt := 88) hx hb dX5_run_81 (by decide) (fun c9 => ?_) (fun c9 => ?_)
          · have c9 := c9
            refine lv_iconst (v := 1) hx hb dX5_run_88 (by decide) ?_
            refine lv_goto (tgt := 93) hx hb dX5_run_89 (by decide) ?_
            refine va_zast hx hb hK hP (mD hi) hS 84 1 (mq_Z iZ_84) rfl g8 dX5_run_93 (fun H locs hP _ hS => ?_)
            have hP := ms_Z iZ_84 hP
            have hP : va_P D vwCl (mw 97 ad (gs cs ad (m_X_run_2 I x1 x2))) H := hP
            refine lv_iload_n hx hb dX5_run_94 rfl (lv_at hl 0 rfl) ?_
            exact q_iret hx hb hr hlocks dX5_run_95 hP hS (by rw [f_X_run, if_neg c1, if_neg c2, if_pos c3, if_pos c5, if_neg c9])
          · have c9 := c9
            refine lv_iload_n hx hb dX5_run_84 rfl (lv_at hl 0 rfl) ?_
            refine lv_if_le (tgt := 92) hx hb dX5_run_85 (by decide) (fun c10 => ?_) (fun c10 => ?_)
            · have c10 := c10
              refine lv_iconst (v := 0) hx hb dX5_run_92 (by decide) ?_
              refine va_zast hx hb hK hP (mD hi) hS 84 1 (mq_Z iZ_84) rfl g8 dX5_run_93 (fun H locs hP _ hS => ?_)
              have hP := ms_Z iZ_84 hP
              have hP : va_P D vwCl (mw 97 ad (gs cs ad (m_X_run_3 I x1 x2))) H := hP
              refine lv_iload_n hx hb dX5_run_94 rfl (lv_at hl 0 rfl) ?_
              exact q_iret hx hb hr hlocks dX5_run_95 hP hS (by rw [f_X_run, if_neg c1, if_neg c2, if_pos c3, if_pos c5, if_pos c9, if_pos c10])
            · have c10 := c10
              refine lv_iconst (v := 1) hx hb dX5_run_88 (by decide) ?_
              refine lv_goto (tgt := 93) hx hb dX5_run_89 (by decide) ?_
              refine va_zast hx hb hK hP (mD hi) hS 84 1 (mq_Z iZ_84) rfl g8 dX5_run_93 (fun H locs hP _ hS => ?_)
              have hP := ms_Z iZ_84 hP
              have hP : va_P D vwCl (mw 97 ad (gs cs ad (m_X_run_2 I x1 x2))) H := hP
              refine lv_iload_n hx hb dX5_run_94 rfl (lv_at hl 0 rfl) ?_
              exact q_iret hx hb hr hlocks dX5_run_95 hP hS (by rw [f_X_run, if_neg c1, if_neg c2, if_pos c3, if_pos c5, if_pos c9, if_neg c10])
        · have ok := ok.2 c5
          refine lv_bipush (v := (-2)) hx hb dX5_run_29 (by decide) ?_
          exact q_iret hx hb hr hlocks dX5_run_31 hP hS (by rw [f_X_run, if_neg c1, if_neg c2, if_pos c3, if_neg c5])
      · have ok := ok.2 c3
        refine lv_iconst (v := (-1)) hx hb dX5_run_18 (by decide) ?_
        exact q_iret hx hb hr hlocks dX5_run_19 hP hS (by rw [f_X_run, if_neg c1, if_neg c2, if_neg c3])

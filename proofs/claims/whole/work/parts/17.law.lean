/-! THE CLAIM OUT OF ONE WALK OF THE LAW'S BODY. Your part is whole_start (and what it stands on); all else here is the same for every law, but numbers. -/
def R_law : String := "ReplayGroupLaw"
def lw_P (b : Addr) (xs : List Int32) (args : Array Value) (s : State) : Prop := args = #[.ref b] ∧ s.IntsAt b xs ∧ xs.length ≤ 2560 ∧ (Jvm.Cond.and given_1 narrow_1).before args s = true
def lw_Q (_ : Array Value) (s : State) (o : Outcome) (t : State) : Prop := o = .returned (some (.int 1)) ∧ Framed s o t [] 600000 7302250
def lw_Z (below : List Frame) (a : Array Value) (s : State) : State → Prop := fun t => ∃ o, t.status = .running ∧ Ended t below o ∧ lw_Q a s o t
/-- the law's own end, with 1 on the stack, nothing written that was there before, its room as the claim has it -/
theorem lw_ret {p : Program} {l : Launch} {e : Env} {s : State} {m : MethodId} {below : List Frame} {meth : Method} {c : Code} {b : Nat} (hx : p.tables.exec = Jvm.exec) (hb : c.code = code) (hr : meth.sig.returnType = ret) (hlocks : meth.locks = false) {pc : Nat} {H : Heap} {ls : Array Slot} (hdg : decode code pc = .ok (.ireturn, 1)) : W p l e room_1 s m #[Value.ref b] below meth c H [] 600000 7302250 (lw_Z below #[Value.ref b] s) (F0 m pc ls [.int 1]) := by
  intro T hT X
  obtain ⟨fs, hret, hrun, hended, hW, hframe⟩ := X.leave (v := some (.int 1)) (hlocks := hlocks) (fun h => by rw [hr] at h; cases h)
  have hmeth' : T.vm.method? m = some meth := X.method'
  refine ⟨T.setFrames fs, ?_, .returned (some (.int 1)), hrun, hended, rfl, ⟨_, rfl⟩, hW, hframe⟩
  jvm_step X.here [X.here.top, hx, hb, hdg, hmeth', hr, ret, narrow_b1]
  (try refine ⟨rfl, ?_⟩); (try refine ⟨rfl, ?_⟩)
  first | (intro acts; rw [hret _ acts rfl rfl rfl]) | rw [hret _ _ rfl rfl rfl]
  exact Steps.refl _
/-- what holds at the law's entry: the machine, the code, the tables' words (any of lw_tbl by 'hts w (by decide +kernel)'), the script of L ints xs at the cell b, what the Statement gives of the start (any of its parts by flat_of_before) -/
def lw_At (p : Program) (s : State) (m : MethodId) (meth : Method) (c : Code) (b L : Nat) (xs : Nat → Int32) : Prop :=
  p.tables.exec = Jvm.exec ∧ c.code = code ∧ meth.sig.returnType = ret ∧ c.maxLocals = 4 ∧ s.vm.findClass R_law = some m.cls ∧ (∀ w ∈ lw_tbl, w.before #[Value.ref b] s = true) ∧ va_X b L xs s s.heap ∧ b < s.heap.size ∧ meth.locks = false ∧ (Jvm.Cond.and given_1 narrow_1).before #[Value.ref b] s = true

theorem tb_out0_17 {x : Int32} (h0 : ¬ x = 0) (h1 : ¬ x = 1) (h2 : ¬ x = 2) (h3 : ¬ x = 3) (h4 : ¬ x = 4) (h5 : ¬ x = 5) (h6 : ¬ x = 6) (h7 : ¬ x = 7) (h8 : ¬ x = 8) (h9 : ¬ x = 9) (h10 : ¬ x = 10) (h11 : ¬ x = 11) (h12 : ¬ x = 12) (h13 : ¬ x = 13) (h14 : ¬ x = 14) (h15 : ¬ x = 15) (h16 : ¬ x = 16) (h17 : ¬ x = 17) : x.toInt < 0 ∨ 17 < x.toInt := by
  have g0 := tb_ne (a := 0) (by decide) h0
  have g1 := tb_ne (a := 1) (by decide) h1
  have g2 := tb_ne (a := 2) (by decide) h2
  have g3 := tb_ne (a := 3) (by decide) h3
  have g4 := tb_ne (a := 4) (by decide) h4
  have g5 := tb_ne (a := 5) (by decide) h5
  have g6 := tb_ne (a := 6) (by decide) h6
  have g7 := tb_ne (a := 7) (by decide) h7
  have g8 := tb_ne (a := 8) (by decide) h8
  have g9 := tb_ne (a := 9) (by decide) h9
  have g10 := tb_ne (a := 10) (by decide) h10
  have g11 := tb_ne (a := 11) (by decide) h11
  have g12 := tb_ne (a := 12) (by decide) h12
  have g13 := tb_ne (a := 13) (by decide) h13
  have g14 := tb_ne (a := 14) (by decide) h14
  have g15 := tb_ne (a := 15) (by decide) h15
  have g16 := tb_ne (a := 16) (by decide) h16
  have g17 := tb_ne (a := 17) (by decide) h17
  omega
def okW (Inv : Nat → Mm → Prop) (xs : Nat → Int32) (L k : Nat) (J : Mm) (x3 : Int32) : Prop := (((Int32.ofNat L) - 5) < x3 → True) ∧ (¬ ((Int32.ofNat L) - 5) < x3 → vp_in x3 L ∧ ((((xs x3.toNatClampNeg) &&& 31) = 0 → vp_in (x3 + 1) L ∧ (vp_in (x3 + 2) L ∧ (vp_in (x3 + 3) L ∧ (vp_in (x3 + 4) L ∧ (ok_G_code J (xs ((x3 + 1).toNatClampNeg)) (xs ((x3 + 2).toNatClampNeg)) (xs ((x3 + 3).toNatClampNeg)) (xs ((x3 + 4).toNatClampNeg)) ∧ (ok_X_code ((f_G_code J (xs ((x3 + 1).toNatClampNeg)) (xs ((x3 + 2).toNatClampNeg)) (xs ((x3 + 3).toNatClampNeg)) (xs ((x3 + 4).toNatClampNeg))).2) (xs ((x3 + 1).toNatClampNeg)) (xs ((x3 + 2).toNatClampNeg)) (xs ((x3 + 3).toNatClampNeg)) (xs ((x3 + 4).toNatClampNeg)) ∧ ((((f_G_code J (xs ((x3 + 1).toNatClampNeg)) (xs ((x3 + 2).toNatClampNeg)) (xs ((x3 + 3).toNatClampNeg)) (xs ((x3 + 4).toNatClampNeg))).1) = ((f_X_code ((f_G_code J (xs ((x3 + 1).toNatClampNeg)) (xs ((x3 + 2).toNatClampNeg)) (xs ((x3 + 3).toNatClampNeg)) (xs ((x3 + 4).toNatClampNeg))).2) (xs ((x3 + 1).toNatClampNeg)) (xs ((x3 + 2).toNatClampNeg)) (xs ((x3 + 3).toNatClampNeg)) (xs ((x3 + 4).toNatClampNeg))).1) → Inv (k + 1) ((f_X_code ((f_G_code J (xs ((x3 + 1).toNatClampNeg)) (xs ((x3 + 2).toNatClampNeg)) (xs ((x3 + 3).toNatClampNeg)) (xs ((x3 + 4).toNatClampNeg))).2) (xs ((x3 + 1).toNatClampNeg)) (xs ((x3 + 2).toNatClampNeg)) (xs ((x3 + 3).toNatClampNeg)) (xs ((x3 + 4).toNatClampNeg))).2)) ∧ (¬ ((f_G_code J (xs ((x3 + 1).toNatClampNeg)) (xs ((x3 + 2).toNatClampNeg)) (xs ((x3 + 3).toNatClampNeg)) (xs ((x3 + 4).toNatClampNeg))).1) = ((f_X_code ((f_G_code J (xs ((x3 + 1).toNatClampNeg)) (xs ((x3 + 2).toNatClampNeg)) (xs ((x3 + 3).toNatClampNeg)) (xs ((x3 + 4).toNatClampNeg))).2) (xs ((x3 + 1).toNatClampNeg)) (xs ((x3 + 2).toNatClampNeg)) (xs ((x3 + 3).toNatClampNeg)) (xs ((x3 + 4).toNatClampNeg))).1) → False)))))))) ∧ (¬ ((xs x3.toNatClampNeg) &&& 31) = 0 → (((xs x3.toNatClampNeg) &&& 31) = 1 → vp_in (x3 + 1) L ∧ (vp_in (x3 + 2) L ∧ (ok_G_input J (xs ((x3 + 1).toNatClampNeg)) (xs ((x3 + 2).toNatClampNeg)) ∧ (ok_X_input ((f_G_input J (xs ((x3 + 1).toNatClampNeg)) (xs ((x3 + 2).toNatClampNeg))).2) (xs ((x3 + 1).toNatClampNeg)) (xs ((x3 + 2).toNatClampNeg)) ∧ ((((f_G_input J (xs ((x3 + 1).toNatClampNeg)) (xs ((x3 + 2).toNatClampNeg))).1) = ((f_X_input ((f_G_input J (xs ((x3 + 1).toNatClampNeg)) (xs ((x3 + 2).toNatClampNeg))).2) (xs ((x3 + 1).toNatClampNeg)) (xs ((x3 + 2).toNatClampNeg))).1) → Inv (k + 1) ((f_X_input ((f_G_input J (xs ((x3 + 1).toNatClampNeg)) (xs ((x3 + 2).toNatClampNeg))).2) (xs ((x3 + 1).toNatClampNeg)) (xs ((x3 + 2).toNatClampNeg))).2)) ∧ (¬ ((f_G_input J (xs ((x3 + 1).toNatClampNeg)) (xs ((x3 + 2).toNatClampNeg))).1) = ((f_X_input ((f_G_input J (xs ((x3 + 1).toNatClampNeg)) (xs ((x3 + 2).toNatClampNeg))).2) (xs ((x3 + 1).toNatClampNeg)) (xs ((x3 + 2).toNatClampNeg))).1) → False)))))) ∧ (¬ ((xs x3.toNatClampNeg) &&& 31) = 1 → (((xs x3.toNatClampNeg) &&& 31) = 2 → vp_in (x3 + 1) L ∧ (vp_in (x3 + 2) L ∧ (ok_G_deliver J (xs ((x3 + 1).toNatClampNeg)) (xs ((x3 + 2).toNatClampNeg)) ∧ (ok_X_deliver ((f_G_deliver J (xs ((x3 + 1).toNatClampNeg)) (xs ((x3 + 2).toNatClampNeg))).2) (xs ((x3 + 1).toNatClampNeg)) (xs ((x3 + 2).toNatClampNeg)) ∧ ((((f_G_deliver J (xs ((x3 + 1).toNatClampNeg)) (xs ((x3 + 2).toNatClampNeg))).1) = ((f_X_deliver ((f_G_deliver J (xs ((x3 + 1).toNatClampNeg)) (xs ((x3 + 2).toNatClampNeg))).2) (xs ((x3 + 1).toNatClampNeg)) (xs ((x3 + 2).toNatClampNeg))).1) → Inv (k + 1) ((f_X_deliver ((f_G_deliver J (xs ((x3 + 1).toNatClampNeg)) (xs ((x3 + 2).toNatClampNeg))).2) (xs ((x3 + 1).toNatClampNeg)) (xs ((x3 + 2).toNatClampNeg))).2)) ∧ (¬ ((f_G_deliver J (xs ((x3 + 1).toNatClampNeg)) (xs ((x3 + 2).toNatClampNeg))).1) = ((f_X_deliver ((f_G_deliver J (xs ((x3 + 1).toNatClampNeg)) (xs ((x3 + 2).toNatClampNeg))).2) (xs ((x3 + 1).toNatClampNeg)) (xs ((x3 + 2).toNatClampNeg))).1) → False)))))) ∧ (¬ ((xs x3.toNatClampNeg) &&& 31) = 2 → (((xs x3.toNatClampNeg) &&& 31) = 3 → vp_in (x3 + 1) L ∧ (ok_G_step J (xs ((x3 + 1).toNatClampNeg)) ∧ (ok_X_step ((f_G_step J (xs ((x3 + 1).toNatClampNeg))).2) (xs ((x3 + 1).toNatClampNeg)) ∧ ((((f_G_step J (xs ((x3 + 1).toNatClampNeg))).1) = ((f_X_step ((f_G_step J (xs ((x3 + 1).toNatClampNeg))).2) (xs ((x3 + 1).toNatClampNeg))).1) → Inv (k + 1) ((f_X_step ((f_G_step J (xs ((x3 + 1).toNatClampNeg))).2) (xs ((x3 + 1).toNatClampNeg))).2)) ∧ (¬ ((f_G_step J (xs ((x3 + 1).toNatClampNeg))).1) = ((f_X_step ((f_G_step J (xs ((x3 + 1).toNatClampNeg))).2) (xs ((x3 + 1).toNatClampNeg))).1) → False))))) ∧ (¬ ((xs x3.toNatClampNeg) &&& 31) = 3 → (((xs x3.toNatClampNeg) &&& 31) = 4 → vp_in (x3 + 1) L ∧ (vp_in (x3 + 2) L ∧ (ok_G_run J (xs ((x3 + 1).toNatClampNeg)) (xs ((x3 + 2).toNatClampNeg)) ∧ (ok_X_run ((f_G_run J (xs ((x3 + 1).toNatClampNeg)) (xs ((x3 + 2).toNatClampNeg))).2) (xs ((x3 + 1).toNatClampNeg)) (xs ((x3 + 2).toNatClampNeg)) ∧ ((((f_G_run J (xs ((x3 + 1).toNatClampNeg)) (xs ((x3 + 2).toNatClampNeg))).1) = ((f_X_run ((f_G_run J (xs ((x3 + 1).toNatClampNeg)) (xs ((x3 + 2).toNatClampNeg))).2) (xs ((x3 + 1).toNatClampNeg)) (xs ((x3 + 2).toNatClampNeg))).1) → Inv (k + 1) ((f_X_run ((f_G_run J (xs ((x3 + 1).toNatClampNeg)) (xs ((x3 + 2).toNatClampNeg))).2) (xs ((x3 + 1).toNatClampNeg)) (xs ((x3 + 2).toNatClampNeg))).2)) ∧ (¬ ((f_G_run J (xs ((x3 + 1).toNatClampNeg)) (xs ((x3 + 2).toNatClampNeg))).1) = ((f_X_run ((f_G_run J (xs ((x3 + 1).toNatClampNeg)) (xs ((x3 + 2).toNatClampNeg))).2) (xs ((x3 + 1).toNatClampNeg)) (xs ((x3 + 2).toNatClampNeg))).1) → False)))))) ∧ (¬ ((xs x3.toNatClampNeg) &&& 31) = 4 → (((xs x3.toNatClampNeg) &&& 31) = 5 → vp_in (x3 + 1) L ∧ (ok_G_checkpoint (xs ((x3 + 1).toNatClampNeg)) ∧ (ok_X_checkpoint ((f_G_checkpoint J (xs ((x3 + 1).toNatClampNeg))).2) (xs ((x3 + 1).toNatClampNeg)) ∧ ((((f_G_checkpoint J (xs ((x3 + 1).toNatClampNeg))).1) = ((f_X_checkpoint ((f_G_checkpoint J (xs ((x3 + 1).toNatClampNeg))).2) (xs ((x3 + 1).toNatClampNeg))).1) → Inv (k + 1) ((f_X_checkpoint ((f_G_checkpoint J (xs ((x3 + 1).toNatClampNeg))).2) (xs ((x3 + 1).toNatClampNeg))).2)) ∧ (¬ ((f_G_checkpoint J (xs ((x3 + 1).toNatClampNeg))).1) = ((f_X_checkpoint ((f_G_checkpoint J (xs ((x3 + 1).toNatClampNeg))).2) (xs ((x3 + 1).toNatClampNeg))).1) → False))))) ∧ (¬ ((xs x3.toNatClampNeg) &&& 31) = 5 → (((xs x3.toNatClampNeg) &&& 31) = 6 → vp_in (x3 + 1) L ∧ (ok_G_crash (xs ((x3 + 1).toNatClampNeg)) ∧ (ok_X_crash (xs ((x3 + 1).toNatClampNeg)) ∧ ((((f_G_crash J (xs ((x3 + 1).toNatClampNeg))).1) = ((f_X_crash ((f_G_crash J (xs ((x3 + 1).toNatClampNeg))).2) (xs ((x3 + 1).toNatClampNeg))).1) → Inv (k + 1) ((f_X_crash ((f_G_crash J (xs ((x3 + 1).toNatClampNeg))).2) (xs ((x3 + 1).toNatClampNeg))).2)) ∧ (¬ ((f_G_crash J (xs ((x3 + 1).toNatClampNeg))).1) = ((f_X_crash ((f_G_crash J (xs ((x3 + 1).toNatClampNeg))).2) (xs ((x3 + 1).toNatClampNeg))).1) → False))))) ∧ (¬ ((xs x3.toNatClampNeg) &&& 31) = 6 → (((xs x3.toNatClampNeg) &&& 31) = 7 → vp_in (x3 + 1) L ∧ (ok_G_recover (xs ((x3 + 1).toNatClampNeg)) ∧ (ok_X_recover ((f_G_recover J (xs ((x3 + 1).toNatClampNeg))).2) (xs ((x3 + 1).toNatClampNeg)) ∧ ((((f_G_recover J (xs ((x3 + 1).toNatClampNeg))).1) = ((f_X_recover ((f_G_recover J (xs ((x3 + 1).toNatClampNeg))).2) (xs ((x3 + 1).toNatClampNeg))).1) → Inv (k + 1) ((f_X_recover ((f_G_recover J (xs ((x3 + 1).toNatClampNeg))).2) (xs ((x3 + 1).toNatClampNeg))).2)) ∧ (¬ ((f_G_recover J (xs ((x3 + 1).toNatClampNeg))).1) = ((f_X_recover ((f_G_recover J (xs ((x3 + 1).toNatClampNeg))).2) (xs ((x3 + 1).toNatClampNeg))).1) → False))))) ∧ (¬ ((xs x3.toNatClampNeg) &&& 31) = 7 → (((xs x3.toNatClampNeg) &&& 31) = 8 → vp_in (x3 + 1) L ∧ (vp_in (x3 + 2) L ∧ (ok_G_register J (xs ((x3 + 1).toNatClampNeg)) (xs ((x3 + 2).toNatClampNeg)) ∧ (ok_X_register J (xs ((x3 + 1).toNatClampNeg)) (xs ((x3 + 2).toNatClampNeg)) ∧ (((f_G_register J (xs ((x3 + 1).toNatClampNeg)) (xs ((x3 + 2).toNatClampNeg))) = ((f_X_register J (xs ((x3 + 1).toNatClampNeg)) (xs ((x3 + 2).toNatClampNeg))).1) → Inv (k + 1) ((f_X_register J (xs ((x3 + 1).toNatClampNeg)) (xs ((x3 + 2).toNatClampNeg))).2)) ∧ (¬ (f_G_register J (xs ((x3 + 1).toNatClampNeg)) (xs ((x3 + 2).toNatClampNeg))) = ((f_X_register J (xs ((x3 + 1).toNatClampNeg)) (xs ((x3 + 2).toNatClampNeg))).1) → False)))))) ∧ (¬ ((xs x3.toNatClampNeg) &&& 31) = 8 → (((xs x3.toNatClampNeg) &&& 31) = 9 → vp_in (x3 + 1) L ∧ (vp_in (x3 + 2) L ∧ (ok_G_state (xs ((x3 + 1).toNatClampNeg)) (xs ((x3 + 2).toNatClampNeg)) ∧ (ok_X_state J (xs ((x3 + 1).toNatClampNeg)) (xs ((x3 + 2).toNatClampNeg)) ∧ (((f_G_state J (xs ((x3 + 1).toNatClampNeg)) (xs ((x3 + 2).toNatClampNeg))) = ((f_X_state J (xs ((x3 + 1).toNatClampNeg)) (xs ((x3 + 2).toNatClampNeg))).1) → Inv (k + 1) ((f_X_state J (xs ((x3 + 1).toNatClampNeg)) (xs ((x3 + 2).toNatClampNeg))).2)) ∧ (¬ (f_G_state J (xs ((x3 + 1).toNatClampNeg)) (xs ((x3 + 2).toNatClampNeg))) = ((f_X_state J (xs ((x3 + 1).toNatClampNeg)) (xs ((x3 + 2).toNatClampNeg))).1) → False)))))) ∧ (¬ ((xs x3.toNatClampNeg) &&& 31) = 9 → (((xs x3.toNatClampNeg) &&& 31) = 10 → vp_in (x3 + 1) L ∧ (vp_in (x3 + 2) L ∧ (ok_G_sent J (xs ((x3 + 1).toNatClampNeg)) (xs ((x3 + 2).toNatClampNeg)) ∧ (ok_X_sent J (xs ((x3 + 1).toNatClampNeg)) (xs ((x3 + 2).toNatClampNeg)) ∧ (((f_G_sent J (xs ((x3 + 1).toNatClampNeg)) (xs ((x3 + 2).toNatClampNeg))) = ((f_X_sent J (xs ((x3 + 1).toNatClampNeg)) (xs ((x3 + 2).toNatClampNeg))).1) → Inv (k + 1) ((f_X_sent J (xs ((x3 + 1).toNatClampNeg)) (xs ((x3 + 2).toNatClampNeg))).2)) ∧ (¬ (f_G_sent J (xs ((x3 + 1).toNatClampNeg)) (xs ((x3 + 2).toNatClampNeg))) = ((f_X_sent J (xs ((x3 + 1).toNatClampNeg)) (xs ((x3 + 2).toNatClampNeg))).1) → False)))))) ∧ (¬ ((xs x3.toNatClampNeg) &&& 31) = 10 → (((xs x3.toNatClampNeg) &&& 31) = 11 → vp_in (x3 + 1) L ∧ (ok_G_kept (xs ((x3 + 1).toNatClampNeg)) ∧ (ok_X_kept (xs ((x3 + 1).toNatClampNeg)) ∧ (((f_G_kept J (xs ((x3 + 1).toNatClampNeg))) = (f_X_kept J (xs ((x3 + 1).toNatClampNeg))) → Inv (k + 1) J) ∧ (¬ (f_G_kept J (xs ((x3 + 1).toNatClampNeg))) = (f_X_kept J (xs ((x3 + 1).toNatClampNeg))) → False))))) ∧ (¬ ((xs x3.toNatClampNeg) &&& 31) = 11 → (((xs x3.toNatClampNeg) &&& 31) = 12 → vp_in (x3 + 1) L ∧ (vp_in (x3 + 2) L ∧ (ok_G_source J (xs ((x3 + 1).toNatClampNeg)) (xs ((x3 + 2).toNatClampNeg)) ∧ (ok_X_source J (xs ((x3 + 1).toNatClampNeg)) (xs ((x3 + 2).toNatClampNeg)) ∧ (((f_G_source J (xs ((x3 + 1).toNatClampNeg)) (xs ((x3 + 2).toNatClampNeg))) = (f_X_source J (xs ((x3 + 1).toNatClampNeg)) (xs ((x3 + 2).toNatClampNeg))) → Inv (k + 1) J) ∧ (¬ (f_G_source J (xs ((x3 + 1).toNatClampNeg)) (xs ((x3 + 2).toNatClampNeg))) = (f_X_source J (xs ((x3 + 1).toNatClampNeg)) (xs ((x3 + 2).toNatClampNeg))) → False)))))) ∧ (¬ ((xs x3.toNatClampNeg) &&& 31) = 12 → (((xs x3.toNatClampNeg) &&& 31) = 13 → vp_in (x3 + 1) L ∧ (vp_in (x3 + 2) L ∧ (ok_G_waiting (xs ((x3 + 1).toNatClampNeg)) (xs ((x3 + 2).toNatClampNeg)) ∧ (ok_X_waiting (xs ((x3 + 1).toNatClampNeg)) (xs ((x3 + 2).toNatClampNeg)) ∧ (((f_G_waiting J (xs ((x3 + 1).toNatClampNeg)) (xs ((x3 + 2).toNatClampNeg))) = (f_X_waiting J (xs ((x3 + 1).toNatClampNeg)) (xs ((x3 + 2).toNatClampNeg))) → Inv (k + 1) J) ∧ (¬ (f_G_waiting J (xs ((x3 + 1).toNatClampNeg)) (xs ((x3 + 2).toNatClampNeg))) = (f_X_waiting J (xs ((x3 + 1).toNatClampNeg)) (xs ((x3 + 2).toNatClampNeg))) → False)))))) ∧ (¬ ((xs x3.toNatClampNeg) &&& 31) = 13 → (((xs x3.toNatClampNeg) &&& 31) = 14 → vp_in (x3 + 1) L ∧ (ok_G_held (xs ((x3 + 1).toNatClampNeg)) ∧ (ok_X_held (xs ((x3 + 1).toNatClampNeg)) ∧ (((f_G_held J (xs ((x3 + 1).toNatClampNeg))) = (f_X_held J (xs ((x3 + 1).toNatClampNeg))) → Inv (k + 1) J) ∧ (¬ (f_G_held J (xs ((x3 + 1).toNatClampNeg))) = (f_X_held J (xs ((x3 + 1).toNatClampNeg))) → False))))) ∧ (¬ ((xs x3.toNatClampNeg) &&& 31) = 14 → (((xs x3.toNatClampNeg) &&& 31) = 15 → ((f_G_outputs J) = (f_X_outputs J) → Inv (k + 1) J) ∧ (¬ (f_G_outputs J) = (f_X_outputs J) → False)) ∧ (¬ ((xs x3.toNatClampNeg) &&& 31) = 15 → (((xs x3.toNatClampNeg) &&& 31) = 16 → vp_in (x3 + 1) L ∧ (ok_G_author J (xs ((x3 + 1).toNatClampNeg)) ∧ (ok_X_author J (xs ((x3 + 1).toNatClampNeg)) ∧ (((f_G_author J (xs ((x3 + 1).toNatClampNeg))) = (f_X_author J (xs ((x3 + 1).toNatClampNeg))) → Inv (k + 1) J) ∧ (¬ (f_G_author J (xs ((x3 + 1).toNatClampNeg))) = (f_X_author J (xs ((x3 + 1).toNatClampNeg))) → False))))) ∧ (¬ ((xs x3.toNatClampNeg) &&& 31) = 16 → (((xs x3.toNatClampNeg) &&& 31) = 17 → vp_in (x3 + 1) L ∧ (ok_G_output J (xs ((x3 + 1).toNatClampNeg)) ∧ (ok_X_output J (xs ((x3 + 1).toNatClampNeg)) ∧ (((f_G_output J (xs ((x3 + 1).toNatClampNeg))) = (f_X_output J (xs ((x3 + 1).toNatClampNeg))) → Inv (k + 1) J) ∧ (¬ (f_G_output J (xs ((x3 + 1).toNatClampNeg))) = (f_X_output J (xs ((x3 + 1).toNatClampNeg))) → False))))) ∧ (¬ ((xs x3.toNatClampNeg) &&& 31) = 17 → Inv (k + 1) J))))))))))))))))))))
theorem hnext (k : Nat) : nI (5 * k) + 5 = nI (5 * (k + 1)) := by
  rw [show (5 : Int32) = nI 5 from rfl, nI_add]
  congr 1
theorem hgo {L k : Nat} (hL : L ≤ 2560) (hk : 5 * k ≤ L) (h : ¬ (Int32.ofNat L - 5) < nI (5 * k)) : 5 * (k + 1) ≤ L := by
  rcases Nat.lt_or_ge L (5 * (k + 1)) with q | q
  · refine absurd ?_ h
    have e : (Int32.ofNat L - 5) = nI L - nI 5 := rfl
    rw [e, Int32.lt_iff_toInt_lt, pk_sub_toInt (by omega) (by omega), nI_toInt (by omega)]
    omega
  · exact q
set_option maxHeartbeats 4000000 in
set_option maxRecDepth 100000 in
theorem law_loop (Inv : Nat → Mm → Prop) {p : Program} {l : Launch} {e : Env} {s : State} {m : MethodId} {below : List Frame} {meth : Method} {c : Code} {D : va_G} {cs : Nat → ClassId} {ad : Nat → Nat} {b L : Nat} {xs : Nat → Int32} (hi : mi ad) (hL : L ≤ 2560) (C0 : lw_At p s m meth c b L xs) (hK : va_K D vwCl (tyl cs) s) (hAd : ∀ q, mA ad q → s.heap.size ≤ q) (hV : ∀ (k : Nat) (J : Mm), k < 512 → Inv k J → 5 * k ≤ L → okW Inv xs L k J (nI (5 * k))) : ∀ (n k : Nat) (J : Mm) (x3 : Int32) (H : Heap) (locs : List Loc) (ls : Array Slot), L < 5 * (k + n) → 5 * k ≤ L → x3 = nI (5 * k) → Inv k J → va_P D vwCl (mw 97 ad (gs cs ad J)) H → va_S (fun q : Nat => s.heap.size ≤ q) s.heap H locs → lv_has ls 4 [(3, .int x3), (0, .ref b), (1, .ref (ad 0)), (2, .ref (ad 75))] → W p l e room_1 s m #[Value.ref b] below meth c H locs 97 5000 (lw_Z below #[Value.ref b] s) (F0 m 18 ls []) := by
  obtain ⟨hx, hb, hr, hml, hown, hts, hX, hbl, hlocks, hgv⟩ := C0
  have hown : s.vm.findClass RL = some m.cls := hown
  have hts : ∀ w ∈ gtbl, w.before _ s = true := fun w h => hts w (gt_in w h)
  have hbA : ¬ (fun q : Nat => s.heap.size ≤ q) b := Nat.not_le.mpr hbl
  intro n
  induction n with
  | zero =>
    intro k J x3 H locs ls h1 h2
    exact absurd h1 (by omega)
  | succ n ih =>
    intro k J x3 H locs ls h1 h2 ex hI hP hS hl
    have hk : k < 512 ∨ L < 5 * (k + 1) := by omega
    have ok : okW Inv xs L k J x3 ∨ L < 5 * (k + 1) := by
      rcases hk with hk | hk
      · exact Or.inl (by rw [ex]; exact hV k J hk hI h2)
      · exact Or.inr hk
    have hstep : ¬ (Int32.ofNat L - 5) < x3 → 5 * (k + 1) ≤ L := fun h => hgo hL h2 (by rw [ex] at h; exact h)
    have ok : okW Inv xs L k J x3 := by
      rcases ok with ok | ok
      · exact ok
      · rw [ex]
        unfold okW
        exact ⟨fun _ => trivial, fun h => absurd (hgo hL h2 h) (by omega)⟩
    unfold okW at ok
    refine lv_iload_n hx hb dL_law_18 rfl (lv_at hl 0 rfl) ?_
    refine lv_aload_n hx hb dL_law_19 rfl (lv_at hl 1 rfl) ?_
    refine va_slen hx hb hX hbl hbA hS dL_law_20 ?_
    refine lv_iconst (v := 5) hx hb dL_law_21 (by decide) ?_
    refine lv_isub hx hb dL_law_22 ?_
    refine lv_icmp_gt (tgt := 640) hx hb dL_law_23 (by decide) (fun c1 => ?_) (fun c1 => ?_)
    · have ok := ok.1 c1
      refine lv_iconst (v := 1) hx hb dL_law_640 (by decide) ?_
      refine va_forget (fun q hq => hS.2.2 q hq) ?_
      refine W.widen (k := 600000) (n := 7302250) (by decide) (by decide) ?_
      exact lw_ret hx hb hr hlocks dL_law_641
    · have ok := ok.2 c1
      refine lv_aload_n hx hb dL_law_26 rfl (lv_at hl 1 rfl) ?_
      refine lv_iload_n hx hb dL_law_27 rfl (lv_at hl 0 rfl) ?_
      have g2 := ok.1
      have ok := ok.2
      refine va_sld hx hb hX hbl hbA hS g2 dL_law_28 ?_
      refine lv_bipush (v := 31) hx hb dL_law_29 (by decide) ?_
      refine lv_iand hx hb dL_law_31 ?_
      by_cases c3 : ((xs x3.toNatClampNeg) &&& 31) = 0
      · have ok := ok.1 c3
        refine lv_tableIn (tgt := 120) (off := 88) hx hb dL_law_32 (by rw [c3]; decide) (by rw [c3]; decide) (by rw [c3]; rfl) (by decide) ?_
        refine lv_aload_n hx hb dL_law_120 rfl (lv_at hl 2 rfl) ?_
        refine lv_aload_n hx hb dL_law_121 rfl (lv_at hl 1 rfl) ?_
        refine lv_iload_n hx hb dL_law_122 rfl (lv_at hl 0 rfl) ?_
        refine lv_iconst (v := 1) hx hb dL_law_123 (by decide) ?_
        refine lv_iadd hx hb dL_law_124 ?_
        have g4 := ok.1
        have ok := ok.2
        refine va_sld hx hb hX hbl hbA hS g4 dL_law_125 ?_
        refine lv_aload_n hx hb dL_law_126 rfl (lv_at hl 1 rfl) ?_
        refine lv_iload_n hx hb dL_law_127 rfl (lv_at hl 0 rfl) ?_
        refine lv_iconst (v := 2) hx hb dL_law_128 (by decide) ?_
        refine lv_iadd hx hb dL_law_129 ?_
        have g5 := ok.1
        have ok := ok.2
        refine va_sld hx hb hX hbl hbA hS g5 dL_law_130 ?_
        refine lv_aload_n hx hb dL_law_131 rfl (lv_at hl 1 rfl) ?_
        refine lv_iload_n hx hb dL_law_132 rfl (lv_at hl 0 rfl) ?_
        refine lv_iconst (v := 3) hx hb dL_law_133 (by decide) ?_
        refine lv_iadd hx hb dL_law_134 ?_
        have g6 := ok.1
        have ok := ok.2
        refine va_sld hx hb hX hbl hbA hS g6 dL_law_135 ?_
        refine lv_aload_n hx hb dL_law_136 rfl (lv_at hl 1 rfl) ?_
        refine lv_iload_n hx hb dL_law_137 rfl (lv_at hl 0 rfl) ?_
        refine lv_iconst (v := 4) hx hb dL_law_138 (by decide) ?_
        refine lv_iadd hx hb dL_law_139 ?_
        have g7 := ok.1
        have ok := ok.2
        refine va_sld hx hb hX hbl hbA hS g7 dL_law_140 ?_
        have g8 := ok.1
        have ok := ok.2
        refine q_calli (va_runV (As := [.int (xs ((x3 + 1).toNatClampNeg)), .int (xs ((x3 + 2).toNatClampNeg)), .int (xs ((x3 + 3).toNatClampNeg)), .int (xs ((x3 + 4).toNatClampNeg))]) (rest := []) ⟨hx, hb, hml, hown, hts⟩ (c_G_code l D cs ad hi J (xs ((x3 + 1).toNatClampNeg)) (xs ((x3 + 2).toNatClampNeg)) (xs ((x3 + 3).toNatClampNeg)) (xs ((x3 + 4).toNatClampNeg)) g8) (cwV 4 hts (gV k_107 k_108 k_109 k_1 k_110) rfl rfl rfl (by decide +kernel) ⟨Nat.le_of_ble_eq_true rfl, Nat.le_of_ble_eq_true rfl⟩) (q_preV hK hP (va_recv hK hP (ci := 4) (q0 := 0) rfl (mq_G isO_0))) rfl rfl hl.1 rfl (lv_room (Nat.le_of_ble_eq_true rfl)) dL_law_141 ⟨Nat.le_of_ble_eq_true rfl, Nat.le_of_ble_eq_true rfl⟩) hS hAd (fun H locs hP hS => ?_)
        refine lv_aload_n hx hb dL_law_144 rfl (lv_at hl 3 rfl) ?_
        refine lv_aload_n hx hb dL_law_145 rfl (lv_at hl 1 rfl) ?_
        refine lv_iload_n hx hb dL_law_146 rfl (lv_at hl 0 rfl) ?_
        refine lv_iconst (v := 1) hx hb dL_law_147 (by decide) ?_
        refine lv_iadd hx hb dL_law_148 ?_
        refine va_sld hx hb hX hbl hbA hS g4 dL_law_149 ?_
        refine lv_aload_n hx hb dL_law_150 rfl (lv_at hl 1 rfl) ?_
        refine lv_iload_n hx hb dL_law_151 rfl (lv_at hl 0 rfl) ?_
        refine lv_iconst (v := 2) hx hb dL_law_152 (by decide) ?_
        refine lv_iadd hx hb dL_law_153 ?_
        refine va_sld hx hb hX hbl hbA hS g5 dL_law_154 ?_
        refine lv_aload_n hx hb dL_law_155 rfl (lv_at hl 1 rfl) ?_
        refine lv_iload_n hx hb dL_law_156 rfl (lv_at hl 0 rfl) ?_
        refine lv_iconst (v := 3) hx hb dL_law_157 (by decide) ?_
        refine lv_iadd hx hb dL_law_158 ?_
        refine va_sld hx hb hX hbl hbA hS g6 dL_law_159 ?_
        refine lv_aload_n hx hb dL_law_160 rfl (lv_at hl 1 rfl) ?_
        refine lv_iload_n hx hb dL_law_161 rfl (lv_at hl 0 rfl) ?_
        refine lv_iconst (v := 4) hx hb dL_law_162 (by decide) ?_
        refine lv_iadd hx hb dL_law_163 ?_
        refine va_sld hx hb hX hbl hbA hS g7 dL_law_164 ?_
        have g9 := ok.1
        have ok := ok.2
        refine q_calli (va_runV (As := [.int (xs ((x3 + 1).toNatClampNeg)), .int (xs ((x3 + 2).toNatClampNeg)), .int (xs ((x3 + 3).toNatClampNeg)), .int (xs ((x3 + 4).toNatClampNeg))]) (rest := [.int ((f_G_code J (xs ((x3 + 1).toNatClampNeg)) (xs ((x3 + 2).toNatClampNeg)) (xs ((x3 + 3).toNatClampNeg)) (xs ((x3 + 4).toNatClampNeg))).1)]) ⟨hx, hb, hml, hown, hts⟩ (c_X_code l D cs ad hi ((f_G_code J (xs ((x3 + 1).toNatClampNeg)) (xs ((x3 + 2).toNatClampNeg)) (xs ((x3 + 3).toNatClampNeg)) (xs ((x3 + 4).toNatClampNeg))).2) (xs ((x3 + 1).toNatClampNeg)) (xs ((x3 + 2).toNatClampNeg)) (xs ((x3 + 3).toNatClampNeg)) (xs ((x3 + 4).toNatClampNeg)) g9) (cwV 4 hts (gV k_328 k_329 k_330 k_6 k_331) rfl rfl rfl (by decide +kernel) ⟨Nat.le_of_ble_eq_true rfl, Nat.le_of_ble_eq_true rfl⟩) (q_preV hK hP (va_recv hK hP (ci := 5) (q0 := 75) rfl (mq_X isO_75))) rfl rfl hl.1 rfl (lv_room (Nat.le_of_ble_eq_true rfl)) dL_law_165 ⟨Nat.le_of_ble_eq_true rfl, Nat.le_of_ble_eq_true rfl⟩) hS hAd (fun H locs hP hS => ?_)
        refine lv_icmp_eq (tgt := 634) hx hb dL_law_168 (by decide) (fun c10 => ?_) (fun c10 => ?_)
        · have ok := ok.1 c10
          refine lv_iinc (v := x3 + 5) (lv' := [(3, .int (x3 + 5)), (0, .ref b), (1, .ref (ad 0)), (2, .ref (ad 75))]) hx hb dL_law_634 hl (k := 0) rfl rfl (by decide) rfl (fun ls hl => ?_)
          refine lv_goto (tgt := 18) hx hb dL_law_637 (by decide) ?_
          have g11 := ok
          exact ih (k + 1) ((f_X_code ((f_G_code J (xs ((x3 + 1).toNatClampNeg)) (xs ((x3 + 2).toNatClampNeg)) (xs ((x3 + 3).toNatClampNeg)) (xs ((x3 + 4).toNatClampNeg))).2) (xs ((x3 + 1).toNatClampNeg)) (xs ((x3 + 2).toNatClampNeg)) (xs ((x3 + 3).toNatClampNeg)) (xs ((x3 + 4).toNatClampNeg))).2) (x3 + 5) _ _ _ (by omega) (hstep c1) (by rw [ex]; exact hnext k) g11 hP hS (lv_sub hl [0, 1, 2, 3] rfl)
        · have ok := ok.2 c10
          refine lv_iconst (v := 0) hx hb dL_law_171 (by decide) ?_
          have g12 := ok
          exact absurd g12 id
      · have ok := ok.2 c3
        by_cases c13 : ((xs x3.toNatClampNeg) &&& 31) = 1
        · have ok := ok.1 c13
          refine lv_tableIn (tgt := 173) (off := 141) hx hb dL_law_32 (by rw [c13]; decide) (by rw [c13]; decide) (by rw [c13]; rfl) (by decide) ?_
          refine lv_aload_n hx hb dL_law_173 rfl (lv_at hl 2 rfl) ?_
          refine lv_aload_n hx hb dL_law_174 rfl (lv_at hl 1 rfl) ?_
          refine lv_iload_n hx hb dL_law_175 rfl (lv_at hl 0 rfl) ?_
          refine lv_iconst (v := 1) hx hb dL_law_176 (by decide) ?_
          refine lv_iadd hx hb dL_law_177 ?_
          have g14 := ok.1
          have ok := ok.2
          refine va_sld hx hb hX hbl hbA hS g14 dL_law_178 ?_
          refine lv_aload_n hx hb dL_law_179 rfl (lv_at hl 1 rfl) ?_
          refine lv_iload_n hx hb dL_law_180 rfl (lv_at hl 0 rfl) ?_
          refine lv_iconst (v := 2) hx hb dL_law_181 (by decide) ?_
          refine lv_iadd hx hb dL_law_182 ?_
          have g15 := ok.1
          have ok := ok.2
          refine va_sld hx hb hX hbl hbA hS g15 dL_law_183 ?_
          have g16 := ok.1
          have ok := ok.2
          refine q_calli (va_runV (As := [.int (xs ((x3 + 1).toNatClampNeg)), .int (xs ((x3 + 2).toNatClampNeg))]) (rest := []) ⟨hx, hb, hml, hown, hts⟩ (c_G_input l D cs ad hi J (xs ((x3 + 1).toNatClampNeg)) (xs ((x3 + 2).toNatClampNeg)) g16) (cwV 2 hts (gV k_131 k_132 k_133 k_1 k_134) rfl rfl rfl (by decide +kernel) ⟨Nat.le_of_ble_eq_true rfl, Nat.le_of_ble_eq_true rfl⟩) (q_preV hK hP (va_recv hK hP (ci := 4) (q0 := 0) rfl (mq_G isO_0))) rfl rfl hl.1 rfl (lv_room (Nat.le_of_ble_eq_true rfl)) dL_law_184 ⟨Nat.le_of_ble_eq_true rfl, Nat.le_of_ble_eq_true rfl⟩) hS hAd (fun H locs hP hS => ?_)
          refine lv_aload_n hx hb dL_law_187 rfl (lv_at hl 3 rfl) ?_
          refine lv_aload_n hx hb dL_law_188 rfl (lv_at hl 1 rfl) ?_
          refine lv_iload_n hx hb dL_law_189 rfl (lv_at hl 0 rfl) ?_
          refine lv_iconst (v := 1) hx hb dL_law_190 (by decide) ?_
          refine lv_iadd hx hb dL_law_191 ?_
          refine va_sld hx hb hX hbl hbA hS g14 dL_law_192 ?_
          refine lv_aload_n hx hb dL_law_193 rfl (lv_at hl 1 rfl) ?_
          refine lv_iload_n hx hb dL_law_194 rfl (lv_at hl 0 rfl) ?_
          refine lv_iconst (v := 2) hx hb dL_law_195 (by decide) ?_
          refine lv_iadd hx hb dL_law_196 ?_
          refine va_sld hx hb hX hbl hbA hS g15 dL_law_197 ?_
          have g17 := ok.1
          have ok := ok.2
          refine q_calli (va_runV (As := [.int (xs ((x3 + 1).toNatClampNeg)), .int (xs ((x3 + 2).toNatClampNeg))]) (rest := [.int ((f_G_input J (xs ((x3 + 1).toNatClampNeg)) (xs ((x3 + 2).toNatClampNeg))).1)]) ⟨hx, hb, hml, hown, hts⟩ (c_X_input l D cs ad hi ((f_G_input J (xs ((x3 + 1).toNatClampNeg)) (xs ((x3 + 2).toNatClampNeg))).2) (xs ((x3 + 1).toNatClampNeg)) (xs ((x3 + 2).toNatClampNeg)) g17) (cwV 2 hts (gV k_344 k_345 k_346 k_6 k_347) rfl rfl rfl (by decide +kernel) ⟨Nat.le_of_ble_eq_true rfl, Nat.le_of_ble_eq_true rfl⟩) (q_preV hK hP (va_recv hK hP (ci := 5) (q0 := 75) rfl (mq_X isO_75))) rfl rfl hl.1 rfl (lv_room (Nat.le_of_ble_eq_true rfl)) dL_law_198 ⟨Nat.le_of_ble_eq_true rfl, Nat.le_of_ble_eq_true rfl⟩) hS hAd (fun H locs hP hS => ?_)
          refine lv_icmp_eq (tgt := 634) hx hb dL_law_201 (by decide) (fun c18 => ?_) (fun c18 => ?_)
          · have ok := ok.1 c18
            refine lv_iinc (v := x3 + 5) (lv' := [(3, .int (x3 + 5)), (0, .ref b), (1, .ref (ad 0)), (2, .ref (ad 75))]) hx hb dL_law_634 hl (k := 0) rfl rfl (by decide) rfl (fun ls hl => ?_)
            refine lv_goto (tgt := 18) hx hb dL_law_637 (by decide) ?_
            have g19 := ok
            exact ih (k + 1) ((f_X_input ((f_G_input J (xs ((x3 + 1).toNatClampNeg)) (xs ((x3 + 2).toNatClampNeg))).2) (xs ((x3 + 1).toNatClampNeg)) (xs ((x3 + 2).toNatClampNeg))).2) (x3 + 5) _ _ _ (by omega) (hstep c1) (by rw [ex]; exact hnext k) g19 hP hS (lv_sub hl [0, 1, 2, 3] rfl)
          · have ok := ok.2 c18
            refine lv_iconst (v := 0) hx hb dL_law_204 (by decide) ?_
            have g20 := ok
            exact absurd g20 id
        · have ok := ok.2 c13
          by_cases c21 : ((xs x3.toNatClampNeg) &&& 31) = 2
          · have ok := ok.1 c21
            refine lv_tableIn (tgt := 206) (off := 174) hx hb dL_law_32 (by rw [c21]; decide) (by rw [c21]; decide) (by rw [c21]; rfl) (by decide) ?_
            refine lv_aload_n hx hb dL_law_206 rfl (lv_at hl 2 rfl) ?_
            refine lv_aload_n hx hb dL_law_207 rfl (lv_at hl 1 rfl) ?_
            refine lv_iload_n hx hb dL_law_208 rfl (lv_at hl 0 rfl) ?_
            refine lv_iconst (v := 1) hx hb dL_law_209 (by decide) ?_
            refine lv_iadd hx hb dL_law_210 ?_
            have g22 := ok.1
            have ok := ok.2
            refine va_sld hx hb hX hbl hbA hS g22 dL_law_211 ?_
            refine lv_aload_n hx hb dL_law_212 rfl (lv_at hl 1 rfl) ?_
            refine lv_iload_n hx hb dL_law_213 rfl (lv_at hl 0 rfl) ?_
            refine lv_iconst (v := 2) hx hb dL_law_214 (by decide) ?_
            refine lv_iadd hx hb dL_law_215 ?_
            have g23 := ok.1
            have ok := ok.2
            refine va_sld hx hb hX hbl hbA hS g23 dL_law_216 ?_
            have g24 := ok.1
            have ok := ok.2
            refine q_calli (va_runV (As := [.int (xs ((x3 + 1).toNatClampNeg)), .int (xs ((x3 + 2).toNatClampNeg))]) (rest := []) ⟨hx, hb, hml, hown, hts⟩ (c_G_deliver l D cs ad hi J (xs ((x3 + 1).toNatClampNeg)) (xs ((x3 + 2).toNatClampNeg)) g24) (cwV 2 hts (gV k_153 k_154 k_155 k_1 k_156) rfl rfl rfl (by decide +kernel) ⟨Nat.le_of_ble_eq_true rfl, Nat.le_of_ble_eq_true rfl⟩) (q_preV hK hP (va_recv hK hP (ci := 4) (q0 := 0) rfl (mq_G isO_0))) rfl rfl hl.1 rfl (lv_room (Nat.le_of_ble_eq_true rfl)) dL_law_217 ⟨Nat.le_of_ble_eq_true rfl, Nat.le_of_ble_eq_true rfl⟩) hS hAd (fun H locs hP hS => ?_)
            refine lv_aload_n hx hb dL_law_220 rfl (lv_at hl 3 rfl) ?_
            refine lv_aload_n hx hb dL_law_221 rfl (lv_at hl 1 rfl) ?_
            refine lv_iload_n hx hb dL_law_222 rfl (lv_at hl 0 rfl) ?_
            refine lv_iconst (v := 1) hx hb dL_law_223 (by decide) ?_
            refine lv_iadd hx hb dL_law_224 ?_
            refine va_sld hx hb hX hbl hbA hS g22 dL_law_225 ?_
            refine lv_aload_n hx hb dL_law_226 rfl (lv_at hl 1 rfl) ?_
            refine lv_iload_n hx hb dL_law_227 rfl (lv_at hl 0 rfl) ?_
            refine lv_iconst (v := 2) hx hb dL_law_228 (by decide) ?_
            refine lv_iadd hx hb dL_law_229 ?_
            refine va_sld hx hb hX hbl hbA hS g23 dL_law_230 ?_
            have g25 := ok.1
            have ok := ok.2
            refine q_calli (va_runV (As := [.int (xs ((x3 + 1).toNatClampNeg)), .int (xs ((x3 + 2).toNatClampNeg))]) (rest := [.int ((f_G_deliver J (xs ((x3 + 1).toNatClampNeg)) (xs ((x3 + 2).toNatClampNeg))).1)]) ⟨hx, hb, hml, hown, hts⟩ (c_X_deliver l D cs ad hi ((f_G_deliver J (xs ((x3 + 1).toNatClampNeg)) (xs ((x3 + 2).toNatClampNeg))).2) (xs ((x3 + 1).toNatClampNeg)) (xs ((x3 + 2).toNatClampNeg)) g25) (cwV 2 hts (gV k_354 k_355 k_356 k_6 k_357) rfl rfl rfl (by decide +kernel) ⟨Nat.le_of_ble_eq_true rfl, Nat.le_of_ble_eq_true rfl⟩) (q_preV hK hP (va_recv hK hP (ci := 5) (q0 := 75) rfl (mq_X isO_75))) rfl rfl hl.1 rfl (lv_room (Nat.le_of_ble_eq_true rfl)) dL_law_231 ⟨Nat.le_of_ble_eq_true rfl, Nat.le_of_ble_eq_true rfl⟩) hS hAd (fun H locs hP hS => ?_)
            refine lv_icmp_eq (tgt := 634) hx hb dL_law_234 (by decide) (fun c26 => ?_) (fun c26 => ?_)
            · have ok := ok.1 c26
              refine lv_iinc (v := x3 + 5) (lv' := [(3, .int (x3 + 5)), (0, .ref b), (1, .ref (ad 0)), (2, .ref (ad 75))]) hx hb dL_law_634 hl (k := 0) rfl rfl (by decide) rfl (fun ls hl => ?_)
              refine lv_goto (tgt := 18) hx hb dL_law_637 (by decide) ?_
              have g27 := ok
              exact ih (k + 1) ((f_X_deliver ((f_G_deliver J (xs ((x3 + 1).toNatClampNeg)) (xs ((x3 + 2).toNatClampNeg))).2) (xs ((x3 + 1).toNatClampNeg)) (xs ((x3 + 2).toNatClampNeg))).2) (x3 + 5) _ _ _ (by omega) (hstep c1) (by rw [ex]; exact hnext k) g27 hP hS (lv_sub hl [0, 1, 2, 3] rfl)
            · have ok := ok.2 c26
              refine lv_iconst (v := 0) hx hb dL_law_237 (by decide) ?_
              have g28 := ok
              exact absurd g28 id
          · have ok := ok.2 c21
            by_cases c29 : ((xs x3.toNatClampNeg) &&& 31) = 3
            · have ok := ok.1 c29
              refine lv_tableIn (tgt := 239) (off := 207) hx hb dL_law_32 (by rw [c29]; decide) (by rw [c29]; decide) (by rw [c29]; rfl) (by decide) ?_
              refine lv_aload_n hx hb dL_law_239 rfl (lv_at hl 2 rfl) ?_
              refine lv_aload_n hx hb dL_law_240 rfl (lv_at hl 1 rfl) ?_
              refine lv_iload_n hx hb dL_law_241 rfl (lv_at hl 0 rfl) ?_
              refine lv_iconst (v := 1) hx hb dL_law_242 (by decide) ?_
              refine lv_iadd hx hb dL_law_243 ?_
              have g30 := ok.1
              have ok := ok.2
              refine va_sld hx hb hX hbl hbA hS g30 dL_law_244 ?_
              have g31 := ok.1
              have ok := ok.2
              refine q_calli (va_runV (As := [.int (xs ((x3 + 1).toNatClampNeg))]) (rest := []) ⟨hx, hb, hml, hown, hts⟩ (c_G_step l D cs ad hi J (xs ((x3 + 1).toNatClampNeg)) g31) (cwV 1 hts (gV k_169 k_170 k_171 k_1 k_172) rfl rfl rfl (by decide +kernel) ⟨Nat.le_of_ble_eq_true rfl, Nat.le_of_ble_eq_true rfl⟩) (q_preV hK hP (va_recv hK hP (ci := 4) (q0 := 0) rfl (mq_G isO_0))) rfl rfl hl.1 rfl (lv_room (Nat.le_of_ble_eq_true rfl)) dL_law_245 ⟨Nat.le_of_ble_eq_true rfl, Nat.le_of_ble_eq_true rfl⟩) hS hAd (fun H locs hP hS => ?_)
              refine lv_aload_n hx hb dL_law_248 rfl (lv_at hl 3 rfl) ?_
              refine lv_aload_n hx hb dL_law_249 rfl (lv_at hl 1 rfl) ?_
              refine lv_iload_n hx hb dL_law_250 rfl (lv_at hl 0 rfl) ?_
              refine lv_iconst (v := 1) hx hb dL_law_251 (by decide) ?_
              refine lv_iadd hx hb dL_law_252 ?_
              refine va_sld hx hb hX hbl hbA hS g30 dL_law_253 ?_
              have g32 := ok.1
              have ok := ok.2
              refine q_calli (va_runV (As := [.int (xs ((x3 + 1).toNatClampNeg))]) (rest := [.int ((f_G_step J (xs ((x3 + 1).toNatClampNeg))).1)]) ⟨hx, hb, hml, hown, hts⟩ (c_X_step l D cs ad hi ((f_G_step J (xs ((x3 + 1).toNatClampNeg))).2) (xs ((x3 + 1).toNatClampNeg)) g32) (cwV 1 hts (gV k_358 k_359 k_360 k_6 k_361) rfl rfl rfl (by decide +kernel) ⟨Nat.le_of_ble_eq_true rfl, Nat.le_of_ble_eq_true rfl⟩) (q_preV hK hP (va_recv hK hP (ci := 5) (q0 := 75) rfl (mq_X isO_75))) rfl rfl hl.1 rfl (lv_room (Nat.le_of_ble_eq_true rfl)) dL_law_254 ⟨Nat.le_of_ble_eq_true rfl, Nat.le_of_ble_eq_true rfl⟩) hS hAd (fun H locs hP hS => ?_)
              refine lv_icmp_eq (tgt := 634) hx hb dL_law_257 (by decide) (fun c33 => ?_) (fun c33 => ?_)
              · have ok := ok.1 c33
                refine lv_iinc (v := x3 + 5) (lv' := [(3, .int (x3 + 5)), (0, .ref b), (1, .ref (ad 0)), (2, .ref (ad 75))]) hx hb dL_law_634 hl (k := 0) rfl rfl (by decide) rfl (fun ls hl => ?_)
                refine lv_goto (tgt := 18) hx hb dL_law_637 (by decide) ?_
                have g34 := ok
                exact ih (k + 1) ((f_X_step ((f_G_step J (xs ((x3 + 1).toNatClampNeg))).2) (xs ((x3 + 1).toNatClampNeg))).2) (x3 + 5) _ _ _ (by omega) (hstep c1) (by rw [ex]; exact hnext k) g34 hP hS (lv_sub hl [0, 1, 2, 3] rfl)
              · have ok := ok.2 c33
                refine lv_iconst (v := 0) hx hb dL_law_260 (by decide) ?_
                have g35 := ok
                exact absurd g35 id
            · have ok := ok.2 c29
              by_cases c36 : ((xs x3.toNatClampNeg) &&& 31) = 4
              · have ok := ok.1 c36
                refine lv_tableIn (tgt := 262) (off := 230) hx hb dL_law_32 (by rw [c36]; decide) (by rw [c36]; decide) (by rw [c36]; rfl) (by decide) ?_
                refine lv_aload_n hx hb dL_law_262 rfl (lv_at hl 2 rfl) ?_
                refine lv_aload_n hx hb dL_law_263 rfl (lv_at hl 1 rfl) ?_
                refine lv_iload_n hx hb dL_law_264 rfl (lv_at hl 0 rfl) ?_
                refine lv_iconst (v := 1) hx hb dL_law_265 (by decide) ?_
                refine lv_iadd hx hb dL_law_266 ?_
                have g37 := ok.1
                have ok := ok.2
                refine va_sld hx hb hX hbl hbA hS g37 dL_law_267 ?_
                refine lv_aload_n hx hb dL_law_268 rfl (lv_at hl 1 rfl) ?_
                refine lv_iload_n hx hb dL_law_269 rfl (lv_at hl 0 rfl) ?_
                refine lv_iconst (v := 2) hx hb dL_law_270 (by decide) ?_
                refine lv_iadd hx hb dL_law_271 ?_
                have g38 := ok.1
                have ok := ok.2
                refine va_sld hx hb hX hbl hbA hS g38 dL_law_272 ?_
                have g39 := ok.1
                have ok := ok.2
                refine q_calli (va_runV (As := [.int (xs ((x3 + 1).toNatClampNeg)), .int (xs ((x3 + 2).toNatClampNeg))]) (rest := []) ⟨hx, hb, hml, hown, hts⟩ (c_G_run l D cs ad hi J (xs ((x3 + 1).toNatClampNeg)) (xs ((x3 + 2).toNatClampNeg)) g39) (cwV 2 hts (gV k_203 k_204 k_205 k_1 k_206) rfl rfl rfl (by decide +kernel) ⟨Nat.le_of_ble_eq_true rfl, Nat.le_of_ble_eq_true rfl⟩) (q_preV hK hP (va_recv hK hP (ci := 4) (q0 := 0) rfl (mq_G isO_0))) rfl rfl hl.1 rfl (lv_room (Nat.le_of_ble_eq_true rfl)) dL_law_273 ⟨Nat.le_of_ble_eq_true rfl, Nat.le_of_ble_eq_true rfl⟩) hS hAd (fun H locs hP hS => ?_)
                refine lv_aload_n hx hb dL_law_276 rfl (lv_at hl 3 rfl) ?_
                refine lv_aload_n hx hb dL_law_277 rfl (lv_at hl 1 rfl) ?_
                refine lv_iload_n hx hb dL_law_278 rfl (lv_at hl 0 rfl) ?_
                refine lv_iconst (v := 1) hx hb dL_law_279 (by decide) ?_
                refine lv_iadd hx hb dL_law_280 ?_
                refine va_sld hx hb hX hbl hbA hS g37 dL_law_281 ?_
                refine lv_aload_n hx hb dL_law_282 rfl (lv_at hl 1 rfl) ?_
                refine lv_iload_n hx hb dL_law_283 rfl (lv_at hl 0 rfl) ?_
                refine lv_iconst (v := 2) hx hb dL_law_284 (by decide) ?_
                refine lv_iadd hx hb dL_law_285 ?_
                refine va_sld hx hb hX hbl hbA hS g38 dL_law_286 ?_
                have g40 := ok.1
                have ok := ok.2
                refine q_calli (va_runV (As := [.int (xs ((x3 + 1).toNatClampNeg)), .int (xs ((x3 + 2).toNatClampNeg))]) (rest := [.int ((f_G_run J (xs ((x3 + 1).toNatClampNeg)) (xs ((x3 + 2).toNatClampNeg))).1)]) ⟨hx, hb, hml, hown, hts⟩ (c_X_run l D cs ad hi ((f_G_run J (xs ((x3 + 1).toNatClampNeg)) (xs ((x3 + 2).toNatClampNeg))).2) (xs ((x3 + 1).toNatClampNeg)) (xs ((x3 + 2).toNatClampNeg)) g40) (cwV 2 hts (gV k_374 k_375 k_376 k_6 k_377) rfl rfl rfl (by decide +kernel) ⟨Nat.le_of_ble_eq_true rfl, Nat.le_of_ble_eq_true rfl⟩) (q_preV hK hP (va_recv hK hP (ci := 5) (q0 := 75) rfl (mq_X isO_75))) rfl rfl hl.1 rfl (lv_room (Nat.le_of_ble_eq_true rfl)) dL_law_287 ⟨Nat.le_of_ble_eq_true rfl, Nat.le_of_ble_eq_true rfl⟩) hS hAd (fun H locs hP hS => ?_)
                refine lv_icmp_eq (tgt := 634) hx hb dL_law_290 (by decide) (fun c41 => ?_) (fun c41 => ?_)
                · have ok := ok.1 c41
                  refine lv_iinc (v := x3 + 5) (lv' := [(3, .int (x3 + 5)), (0, .ref b), (1, .ref (ad 0)), (2, .ref (ad 75))]) hx hb dL_law_634 hl (k := 0) rfl rfl (by decide) rfl (fun ls hl => ?_)
                  refine lv_goto (tgt := 18) hx hb dL_law_637 (by decide) ?_
                  have g42 := ok
                  exact ih (k + 1) ((f_X_run ((f_G_run J (xs ((x3 + 1).toNatClampNeg)) (xs ((x3 + 2).toNatClampNeg))).2) (xs ((x3 + 1).toNatClampNeg)) (xs ((x3 + 2).toNatClampNeg))).2) (x3 + 5) _ _ _ (by omega) (hstep c1) (by rw [ex]; exact hnext k) g42 hP hS (lv_sub hl [0, 1, 2, 3] rfl)
                · have ok := ok.2 c41
                  refine lv_iconst (v := 0) hx hb dL_law_293 (by decide) ?_
                  have g43 := ok
                  exact absurd g43 id
              · have ok := ok.2 c36
                by_cases c44 : ((xs x3.toNatClampNeg) &&& 31) = 5
                · have ok := ok.1 c44
                  refine lv_tableIn (tgt := 295) (off := 263) hx hb dL_law_32 (by rw [c44]; decide) (by rw [c44]; decide) (by rw [c44]; rfl) (by decide) ?_
                  refine lv_aload_n hx hb dL_law_295 rfl (lv_at hl 2 rfl) ?_
                  refine lv_aload_n hx hb dL_law_296 rfl (lv_at hl 1 rfl) ?_
                  refine lv_iload_n hx hb dL_law_297 rfl (lv_at hl 0 rfl) ?_
                  refine lv_iconst (v := 1) hx hb dL_law_298 (by decide) ?_
                  refine lv_iadd hx hb dL_law_299 ?_
                  have g45 := ok.1
                  have ok := ok.2
                  refine va_sld hx hb hX hbl hbA hS g45 dL_law_300 ?_
                  have g46 := ok.1
                  have ok := ok.2
                  refine q_calli (va_runV (As := [.int (xs ((x3 + 1).toNatClampNeg))]) (rest := []) ⟨hx, hb, hml, hown, hts⟩ (c_G_checkpoint l D cs ad hi J (xs ((x3 + 1).toNatClampNeg)) g46) (cwV 1 hts (gV k_207 k_208 k_209 k_1 k_210) rfl rfl rfl (by decide +kernel) ⟨Nat.le_of_ble_eq_true rfl, Nat.le_of_ble_eq_true rfl⟩) (q_preV hK hP (va_recv hK hP (ci := 4) (q0 := 0) rfl (mq_G isO_0))) rfl rfl hl.1 rfl (lv_room (Nat.le_of_ble_eq_true rfl)) dL_law_301 ⟨Nat.le_of_ble_eq_true rfl, Nat.le_of_ble_eq_true rfl⟩) hS hAd (fun H locs hP hS => ?_)
                  refine lv_aload_n hx hb dL_law_304 rfl (lv_at hl 3 rfl) ?_
                  refine lv_aload_n hx hb dL_law_305 rfl (lv_at hl 1 rfl) ?_
                  refine lv_iload_n hx hb dL_law_306 rfl (lv_at hl 0 rfl) ?_
                  refine lv_iconst (v := 1) hx hb dL_law_307 (by decide) ?_
                  refine lv_iadd hx hb dL_law_308 ?_
                  refine va_sld hx hb hX hbl hbA hS g45 dL_law_309 ?_
                  have g47 := ok.1
                  have ok := ok.2
                  refine q_calli (va_runV (As := [.int (xs ((x3 + 1).toNatClampNeg))]) (rest := [.int ((f_G_checkpoint J (xs ((x3 + 1).toNatClampNeg))).1)]) ⟨hx, hb, hml, hown, hts⟩ (c_X_checkpoint l D cs ad hi ((f_G_checkpoint J (xs ((x3 + 1).toNatClampNeg))).2) (xs ((x3 + 1).toNatClampNeg)) g47) (cwV 1 hts (gV k_378 k_379 k_380 k_6 k_381) rfl rfl rfl (by decide +kernel) ⟨Nat.le_of_ble_eq_true rfl, Nat.le_of_ble_eq_true rfl⟩) (q_preV hK hP (va_recv hK hP (ci := 5) (q0 := 75) rfl (mq_X isO_75))) rfl rfl hl.1 rfl (lv_room (Nat.le_of_ble_eq_true rfl)) dL_law_310 ⟨Nat.le_of_ble_eq_true rfl, Nat.le_of_ble_eq_true rfl⟩) hS hAd (fun H locs hP hS => ?_)
                  refine lv_icmp_eq (tgt := 634) hx hb dL_law_313 (by decide) (fun c48 => ?_) (fun c48 => ?_)
                  · have ok := ok.1 c48
                    refine lv_iinc (v := x3 + 5) (lv' := [(3, .int (x3 + 5)), (0, .ref b), (1, .ref (ad 0)), (2, .ref (ad 75))]) hx hb dL_law_634 hl (k := 0) rfl rfl (by decide) rfl (fun ls hl => ?_)
                    refine lv_goto (tgt := 18) hx hb dL_law_637 (by decide) ?_
                    have g49 := ok
                    exact ih (k + 1) ((f_X_checkpoint ((f_G_checkpoint J (xs ((x3 + 1).toNatClampNeg))).2) (xs ((x3 + 1).toNatClampNeg))).2) (x3 + 5) _ _ _ (by omega) (hstep c1) (by rw [ex]; exact hnext k) g49 hP hS (lv_sub hl [0, 1, 2, 3] rfl)
                  · have ok := ok.2 c48
                    refine lv_iconst (v := 0) hx hb dL_law_316 (by decide) ?_
                    have g50 := ok
                    exact absurd g50 id
                · have ok := ok.2 c44
                  by_cases c51 : ((xs x3.toNatClampNeg) &&& 31) = 6
                  · have ok := ok.1 c51
                    refine lv_tableIn (tgt := 318) (off := 286) hx hb dL_law_32 (by rw [c51]; decide) (by rw [c51]; decide) (by rw [c51]; rfl) (by decide) ?_
                    refine lv_aload_n hx hb dL_law_318 rfl (lv_at hl 2 rfl) ?_
                    refine lv_aload_n hx hb dL_law_319 rfl (lv_at hl 1 rfl) ?_
                    refine lv_iload_n hx hb dL_law_320 rfl (lv_at hl 0 rfl) ?_
                    refine lv_iconst (v := 1) hx hb dL_law_321 (by decide) ?_
                    refine lv_iadd hx hb dL_law_322 ?_
                    have g52 := ok.1
                    have ok := ok.2
                    refine va_sld hx hb hX hbl hbA hS g52 dL_law_323 ?_
                    have g53 := ok.1
                    have ok := ok.2
                    refine q_calli (va_runV (As := [.int (xs ((x3 + 1).toNatClampNeg))]) (rest := []) ⟨hx, hb, hml, hown, hts⟩ (c_G_crash l D cs ad hi J (xs ((x3 + 1).toNatClampNeg)) g53) (cwV 1 hts (gV k_218 k_219 k_220 k_1 k_221) rfl rfl rfl (by decide +kernel) ⟨Nat.le_of_ble_eq_true rfl, Nat.le_of_ble_eq_true rfl⟩) (q_preV hK hP (va_recv hK hP (ci := 4) (q0 := 0) rfl (mq_G isO_0))) rfl rfl hl.1 rfl (lv_room (Nat.le_of_ble_eq_true rfl)) dL_law_324 ⟨Nat.le_of_ble_eq_true rfl, Nat.le_of_ble_eq_true rfl⟩) hS hAd (fun H locs hP hS => ?_)
                    refine lv_aload_n hx hb dL_law_327 rfl (lv_at hl 3 rfl) ?_
                    refine lv_aload_n hx hb dL_law_328 rfl (lv_at hl 1 rfl) ?_
                    refine lv_iload_n hx hb dL_law_329 rfl (lv_at hl 0 rfl) ?_
                    refine lv_iconst (v := 1) hx hb dL_law_330 (by decide) ?_
                    refine lv_iadd hx hb dL_law_331 ?_
                    refine va_sld hx hb hX hbl hbA hS g52 dL_law_332 ?_
                    have g54 := ok.1
                    have ok := ok.2
                    refine q_calli (va_runV (As := [.int (xs ((x3 + 1).toNatClampNeg))]) (rest := [.int ((f_G_crash J (xs ((x3 + 1).toNatClampNeg))).1)]) ⟨hx, hb, hml, hown, hts⟩ (c_X_crash l D cs ad hi ((f_G_crash J (xs ((x3 + 1).toNatClampNeg))).2) (xs ((x3 + 1).toNatClampNeg)) g54) (cwV 1 hts (gV k_382 k_383 k_384 k_6 k_385) rfl rfl rfl (by decide +kernel) ⟨Nat.le_of_ble_eq_true rfl, Nat.le_of_ble_eq_true rfl⟩) (q_preV hK hP (va_recv hK hP (ci := 5) (q0 := 75) rfl (mq_X isO_75))) rfl rfl hl.1 rfl (lv_room (Nat.le_of_ble_eq_true rfl)) dL_law_333 ⟨Nat.le_of_ble_eq_true rfl, Nat.le_of_ble_eq_true rfl⟩) hS hAd (fun H locs hP hS => ?_)
                    refine lv_icmp_eq (tgt := 634) hx hb dL_law_336 (by decide) (fun c55 => ?_) (fun c55 => ?_)
                    · have ok := ok.1 c55
                      refine lv_iinc (v := x3 + 5) (lv' := [(3, .int (x3 + 5)), (0, .ref b), (1, .ref (ad 0)), (2, .ref (ad 75))]) hx hb dL_law_634 hl (k := 0) rfl rfl (by decide) rfl (fun ls hl => ?_)
                      refine lv_goto (tgt := 18) hx hb dL_law_637 (by decide) ?_
                      have g56 := ok
                      exact ih (k + 1) ((f_X_crash ((f_G_crash J (xs ((x3 + 1).toNatClampNeg))).2) (xs ((x3 + 1).toNatClampNeg))).2) (x3 + 5) _ _ _ (by omega) (hstep c1) (by rw [ex]; exact hnext k) g56 hP hS (lv_sub hl [0, 1, 2, 3] rfl)
                    · have ok := ok.2 c55
                      refine lv_iconst (v := 0) hx hb dL_law_339 (by decide) ?_
                      have g57 := ok
                      exact absurd g57 id
                  · have ok := ok.2 c51
                    by_cases c58 : ((xs x3.toNatClampNeg) &&& 31) = 7
                    · have ok := ok.1 c58
                      refine lv_tableIn (tgt := 341) (off := 309) hx hb dL_law_32 (by rw [c58]; decide) (by rw [c58]; decide) (by rw [c58]; rfl) (by decide) ?_
                      refine lv_aload_n hx hb dL_law_341 rfl (lv_at hl 2 rfl) ?_
                      refine lv_aload_n hx hb dL_law_342 rfl (lv_at hl 1 rfl) ?_
                      refine lv_iload_n hx hb dL_law_343 rfl (lv_at hl 0 rfl) ?_
                      refine lv_iconst (v := 1) hx hb dL_law_344 (by decide) ?_
                      refine lv_iadd hx hb dL_law_345 ?_
                      have g59 := ok.1
                      have ok := ok.2
                      refine va_sld hx hb hX hbl hbA hS g59 dL_law_346 ?_
                      have g60 := ok.1
                      have ok := ok.2
                      refine q_calli (va_runV (As := [.int (xs ((x3 + 1).toNatClampNeg))]) (rest := []) ⟨hx, hb, hml, hown, hts⟩ (c_G_recover l D cs ad hi J (xs ((x3 + 1).toNatClampNeg)) g60) (cwV 1 hts (gV k_222 k_223 k_224 k_1 k_225) rfl rfl rfl (by decide +kernel) ⟨Nat.le_of_ble_eq_true rfl, Nat.le_of_ble_eq_true rfl⟩) (q_preV hK hP (va_recv hK hP (ci := 4) (q0 := 0) rfl (mq_G isO_0))) rfl rfl hl.1 rfl (lv_room (Nat.le_of_ble_eq_true rfl)) dL_law_347 ⟨Nat.le_of_ble_eq_true rfl, Nat.le_of_ble_eq_true rfl⟩) hS hAd (fun H locs hP hS => ?_)
                      refine lv_aload_n hx hb dL_law_350 rfl (lv_at hl 3 rfl) ?_
                      refine lv_aload_n hx hb dL_law_351 rfl (lv_at hl 1 rfl) ?_
                      refine lv_iload_n hx hb dL_law_352 rfl (lv_at hl 0 rfl) ?_
                      refine lv_iconst (v := 1) hx hb dL_law_353 (by decide) ?_
                      refine lv_iadd hx hb dL_law_354 ?_
                      refine va_sld hx hb hX hbl hbA hS g59 dL_law_355 ?_
                      have g61 := ok.1
                      have ok := ok.2
                      refine q_calli (va_runV (As := [.int (xs ((x3 + 1).toNatClampNeg))]) (rest := [.int ((f_G_recover J (xs ((x3 + 1).toNatClampNeg))).1)]) ⟨hx, hb, hml, hown, hts⟩ (c_X_recover l D cs ad hi ((f_G_recover J (xs ((x3 + 1).toNatClampNeg))).2) (xs ((x3 + 1).toNatClampNeg)) g61) (cwV 1 hts (gV k_386 k_387 k_388 k_6 k_389) rfl rfl rfl (by decide +kernel) ⟨Nat.le_of_ble_eq_true rfl, Nat.le_of_ble_eq_true rfl⟩) (q_preV hK hP (va_recv hK hP (ci := 5) (q0 := 75) rfl (mq_X isO_75))) rfl rfl hl.1 rfl (lv_room (Nat.le_of_ble_eq_true rfl)) dL_law_356 ⟨Nat.le_of_ble_eq_true rfl, Nat.le_of_ble_eq_true rfl⟩) hS hAd (fun H locs hP hS => ?_)
                      refine lv_icmp_eq (tgt := 634) hx hb dL_law_359 (by decide) (fun c62 => ?_) (fun c62 => ?_)
                      · have ok := ok.1 c62
                        refine lv_iinc (v := x3 + 5) (lv' := [(3, .int (x3 + 5)), (0, .ref b), (1, .ref (ad 0)), (2, .ref (ad 75))]) hx hb dL_law_634 hl (k := 0) rfl rfl (by decide) rfl (fun ls hl => ?_)
                        refine lv_goto (tgt := 18) hx hb dL_law_637 (by decide) ?_
                        have g63 := ok
                        exact ih (k + 1) ((f_X_recover ((f_G_recover J (xs ((x3 + 1).toNatClampNeg))).2) (xs ((x3 + 1).toNatClampNeg))).2) (x3 + 5) _ _ _ (by omega) (hstep c1) (by rw [ex]; exact hnext k) g63 hP hS (lv_sub hl [0, 1, 2, 3] rfl)
                      · have ok := ok.2 c62
                        refine lv_iconst (v := 0) hx hb dL_law_362 (by decide) ?_
                        have g64 := ok
                        exact absurd g64 id
                    · have ok := ok.2 c58
                      by_cases c65 : ((xs x3.toNatClampNeg) &&& 31) = 8
                      · have ok := ok.1 c65
                        refine lv_tableIn (tgt := 364) (off := 332) hx hb dL_law_32 (by rw [c65]; decide) (by rw [c65]; decide) (by rw [c65]; rfl) (by decide) ?_
                        refine lv_aload_n hx hb dL_law_364 rfl (lv_at hl 2 rfl) ?_
                        refine lv_aload_n hx hb dL_law_365 rfl (lv_at hl 1 rfl) ?_
                        refine lv_iload_n hx hb dL_law_366 rfl (lv_at hl 0 rfl) ?_
                        refine lv_iconst (v := 1) hx hb dL_law_367 (by decide) ?_
                        refine lv_iadd hx hb dL_law_368 ?_
                        have g66 := ok.1
                        have ok := ok.2
                        refine va_sld hx hb hX hbl hbA hS g66 dL_law_369 ?_
                        refine lv_aload_n hx hb dL_law_370 rfl (lv_at hl 1 rfl) ?_
                        refine lv_iload_n hx hb dL_law_371 rfl (lv_at hl 0 rfl) ?_
                        refine lv_iconst (v := 2) hx hb dL_law_372 (by decide) ?_
                        refine lv_iadd hx hb dL_law_373 ?_
                        have g67 := ok.1
                        have ok := ok.2
                        refine va_sld hx hb hX hbl hbA hS g67 dL_law_374 ?_
                        have g68 := ok.1
                        have ok := ok.2
                        refine q_callp (va_runV (As := [.int (xs ((x3 + 1).toNatClampNeg)), .int (xs ((x3 + 2).toNatClampNeg))]) (rest := []) ⟨hx, hb, hml, hown, hts⟩ (c_G_register l D cs ad hi J (xs ((x3 + 1).toNatClampNeg)) (xs ((x3 + 2).toNatClampNeg)) g68) (cwV 2 hts (gV k_226 k_227 k_228 k_1 k_229) rfl rfl rfl (by decide +kernel) ⟨Nat.le_of_ble_eq_true rfl, Nat.le_of_ble_eq_true rfl⟩) (q_preV hK hP (va_recv hK hP (ci := 4) (q0 := 0) rfl (mq_G isO_0))) rfl rfl hl.1 rfl (lv_room (Nat.le_of_ble_eq_true rfl)) dL_law_375 ⟨Nat.le_of_ble_eq_true rfl, Nat.le_of_ble_eq_true rfl⟩) hS hAd (fun H locs hP hS => ?_)
                        refine lv_aload_n hx hb dL_law_378 rfl (lv_at hl 3 rfl) ?_
                        refine lv_aload_n hx hb dL_law_379 rfl (lv_at hl 1 rfl) ?_
                        refine lv_iload_n hx hb dL_law_380 rfl (lv_at hl 0 rfl) ?_
                        refine lv_iconst (v := 1) hx hb dL_law_381 (by decide) ?_
                        refine lv_iadd hx hb dL_law_382 ?_
                        refine va_sld hx hb hX hbl hbA hS g66 dL_law_383 ?_
                        refine lv_aload_n hx hb dL_law_384 rfl (lv_at hl 1 rfl) ?_
                        refine lv_iload_n hx hb dL_law_385 rfl (lv_at hl 0 rfl) ?_
                        refine lv_iconst (v := 2) hx hb dL_law_386 (by decide) ?_
                        refine lv_iadd hx hb dL_law_387 ?_
                        refine va_sld hx hb hX hbl hbA hS g67 dL_law_388 ?_
                        have g69 := ok.1
                        have ok := ok.2
                        refine q_calli (va_runV (As := [.int (xs ((x3 + 1).toNatClampNeg)), .int (xs ((x3 + 2).toNatClampNeg))]) (rest := [.int (f_G_register J (xs ((x3 + 1).toNatClampNeg)) (xs ((x3 + 2).toNatClampNeg)))]) ⟨hx, hb, hml, hown, hts⟩ (c_X_register l D cs ad hi J (xs ((x3 + 1).toNatClampNeg)) (xs ((x3 + 2).toNatClampNeg)) g69) (cwV 2 hts (gV k_390 k_391 k_392 k_6 k_393) rfl rfl rfl (by decide +kernel) ⟨Nat.le_of_ble_eq_true rfl, Nat.le_of_ble_eq_true rfl⟩) (q_preV hK hP (va_recv hK hP (ci := 5) (q0 := 75) rfl (mq_X isO_75))) rfl rfl hl.1 rfl (lv_room (Nat.le_of_ble_eq_true rfl)) dL_law_389 ⟨Nat.le_of_ble_eq_true rfl, Nat.le_of_ble_eq_true rfl⟩) hS hAd (fun H locs hP hS => ?_)
                        refine lv_icmp_eq (tgt := 634) hx hb dL_law_392 (by decide) (fun c70 => ?_) (fun c70 => ?_)
                        · have ok := ok.1 c70
                          refine lv_iinc (v := x3 + 5) (lv' := [(3, .int (x3 + 5)), (0, .ref b), (1, .ref (ad 0)), (2, .ref (ad 75))]) hx hb dL_law_634 hl (k := 0) rfl rfl (by decide) rfl (fun ls hl => ?_)
                          refine lv_goto (tgt := 18) hx hb dL_law_637 (by decide) ?_
                          have g71 := ok
                          exact ih (k + 1) ((f_X_register J (xs ((x3 + 1).toNatClampNeg)) (xs ((x3 + 2).toNatClampNeg))).2) (x3 + 5) _ _ _ (by omega) (hstep c1) (by rw [ex]; exact hnext k) g71 hP hS (lv_sub hl [0, 1, 2, 3] rfl)
                        · have ok := ok.2 c70
                          refine lv_iconst (v := 0) hx hb dL_law_395 (by decide) ?_
                          have g72 := ok
                          exact absurd g72 id
                      · have ok := ok.2 c65
                        by_cases c73 : ((xs x3.toNatClampNeg) &&& 31) = 9
                        · have ok := ok.1 c73
                          refine lv_tableIn (tgt := 397) (off := 365) hx hb dL_law_32 (by rw [c73]; decide) (by rw [c73]; decide) (by rw [c73]; rfl) (by decide) ?_
                          refine lv_aload_n hx hb dL_law_397 rfl (lv_at hl 2 rfl) ?_
                          refine lv_aload_n hx hb dL_law_398 rfl (lv_at hl 1 rfl) ?_
                          refine lv_iload_n hx hb dL_law_399 rfl (lv_at hl 0 rfl) ?_
                          refine lv_iconst (v := 1) hx hb dL_law_400 (by decide) ?_
                          refine lv_iadd hx hb dL_law_401 ?_
                          have g74 := ok.1
                          have ok := ok.2
                          refine va_sld hx hb hX hbl hbA hS g74 dL_law_402 ?_
                          refine lv_aload_n hx hb dL_law_403 rfl (lv_at hl 1 rfl) ?_
                          refine lv_iload_n hx hb dL_law_404 rfl (lv_at hl 0 rfl) ?_
                          refine lv_iconst (v := 2) hx hb dL_law_405 (by decide) ?_
                          refine lv_iadd hx hb dL_law_406 ?_
                          have g75 := ok.1
                          have ok := ok.2
                          refine va_sld hx hb hX hbl hbA hS g75 dL_law_407 ?_
                          have g76 := ok.1
                          have ok := ok.2
                          refine q_callp (va_runV (As := [.int (xs ((x3 + 1).toNatClampNeg)), .int (xs ((x3 + 2).toNatClampNeg))]) (rest := []) ⟨hx, hb, hml, hown, hts⟩ (c_G_state l D cs ad hi J (xs ((x3 + 1).toNatClampNeg)) (xs ((x3 + 2).toNatClampNeg)) g76) (cwV 2 hts (gV k_230 k_231 k_232 k_1 k_233) rfl rfl rfl (by decide +kernel) ⟨Nat.le_of_ble_eq_true rfl, Nat.le_of_ble_eq_true rfl⟩) (q_preV hK hP (va_recv hK hP (ci := 4) (q0 := 0) rfl (mq_G isO_0))) rfl rfl hl.1 rfl (lv_room (Nat.le_of_ble_eq_true rfl)) dL_law_408 ⟨Nat.le_of_ble_eq_true rfl, Nat.le_of_ble_eq_true rfl⟩) hS hAd (fun H locs hP hS => ?_)
                          refine lv_aload_n hx hb dL_law_411 rfl (lv_at hl 3 rfl) ?_
                          refine lv_aload_n hx hb dL_law_412 rfl (lv_at hl 1 rfl) ?_
                          refine lv_iload_n hx hb dL_law_413 rfl (lv_at hl 0 rfl) ?_
                          refine lv_iconst (v := 1) hx hb dL_law_414 (by decide) ?_
                          refine lv_iadd hx hb dL_law_415 ?_
                          refine va_sld hx hb hX hbl hbA hS g74 dL_law_416 ?_
                          refine lv_aload_n hx hb dL_law_417 rfl (lv_at hl 1 rfl) ?_
                          refine lv_iload_n hx hb dL_law_418 rfl (lv_at hl 0 rfl) ?_
                          refine lv_iconst (v := 2) hx hb dL_law_419 (by decide) ?_
                          refine lv_iadd hx hb dL_law_420 ?_
                          refine va_sld hx hb hX hbl hbA hS g75 dL_law_421 ?_
                          have g77 := ok.1
                          have ok := ok.2
                          refine q_calli (va_runV (As := [.int (xs ((x3 + 1).toNatClampNeg)), .int (xs ((x3 + 2).toNatClampNeg))]) (rest := [.int (f_G_state J (xs ((x3 + 1).toNatClampNeg)) (xs ((x3 + 2).toNatClampNeg)))]) ⟨hx, hb, hml, hown, hts⟩ (c_X_state l D cs ad hi J (xs ((x3 + 1).toNatClampNeg)) (xs ((x3 + 2).toNatClampNeg)) g77) (cwV 2 hts (gV k_394 k_395 k_396 k_6 k_397) rfl rfl rfl (by decide +kernel) ⟨Nat.le_of_ble_eq_true rfl, Nat.le_of_ble_eq_true rfl⟩) (q_preV hK hP (va_recv hK hP (ci := 5) (q0 := 75) rfl (mq_X isO_75))) rfl rfl hl.1 rfl (lv_room (Nat.le_of_ble_eq_true rfl)) dL_law_422 ⟨Nat.le_of_ble_eq_true rfl, Nat.le_of_ble_eq_true rfl⟩) hS hAd (fun H locs hP hS => ?_)
                          refine lv_icmp_eq (tgt := 634) hx hb dL_law_425 (by decide) (fun c78 => ?_) (fun c78 => ?_)
                          · have ok := ok.1 c78
                            refine lv_iinc (v := x3 + 5) (lv' := [(3, .int (x3 + 5)), (0, .ref b), (1, .ref (ad 0)), (2, .ref (ad 75))]) hx hb dL_law_634 hl (k := 0) rfl rfl (by decide) rfl (fun ls hl => ?_)
                            refine lv_goto (tgt := 18) hx hb dL_law_637 (by decide) ?_
                            have g79 := ok
                            exact ih (k + 1) ((f_X_state J (xs ((x3 + 1).toNatClampNeg)) (xs ((x3 + 2).toNatClampNeg))).2) (x3 + 5) _ _ _ (by omega) (hstep c1) (by rw [ex]; exact hnext k) g79 hP hS (lv_sub hl [0, 1, 2, 3] rfl)
                          · have ok := ok.2 c78
                            refine lv_iconst (v := 0) hx hb dL_law_428 (by decide) ?_
                            have g80 := ok
                            exact absurd g80 id
                        · have ok := ok.2 c73
                          by_cases c81 : ((xs x3.toNatClampNeg) &&& 31) = 10
                          · have ok := ok.1 c81
                            refine lv_tableIn (tgt := 430) (off := 398) hx hb dL_law_32 (by rw [c81]; decide) (by rw [c81]; decide) (by rw [c81]; rfl) (by decide) ?_
                            refine lv_aload_n hx hb dL_law_430 rfl (lv_at hl 2 rfl) ?_
                            refine lv_aload_n hx hb dL_law_431 rfl (lv_at hl 1 rfl) ?_
                            refine lv_iload_n hx hb dL_law_432 rfl (lv_at hl 0 rfl) ?_
                            refine lv_iconst (v := 1) hx hb dL_law_433 (by decide) ?_
                            refine lv_iadd hx hb dL_law_434 ?_
                            have g82 := ok.1
                            have ok := ok.2
                            refine va_sld hx hb hX hbl hbA hS g82 dL_law_435 ?_
                            refine lv_aload_n hx hb dL_law_436 rfl (lv_at hl 1 rfl) ?_
                            refine lv_iload_n hx hb dL_law_437 rfl (lv_at hl 0 rfl) ?_
                            refine lv_iconst (v := 2) hx hb dL_law_438 (by decide) ?_
                            refine lv_iadd hx hb dL_law_439 ?_
                            have g83 := ok.1
                            have ok := ok.2
                            refine va_sld hx hb hX hbl hbA hS g83 dL_law_440 ?_
                            have g84 := ok.1
                            have ok := ok.2
                            refine q_callp (va_runV (As := [.int (xs ((x3 + 1).toNatClampNeg)), .int (xs ((x3 + 2).toNatClampNeg))]) (rest := []) ⟨hx, hb, hml, hown, hts⟩ (c_G_sent l D cs ad hi J (xs ((x3 + 1).toNatClampNeg)) (xs ((x3 + 2).toNatClampNeg)) g84) (cwV 2 hts (gV k_234 k_235 k_236 k_1 k_237) rfl rfl rfl (by decide +kernel) ⟨Nat.le_of_ble_eq_true rfl, Nat.le_of_ble_eq_true rfl⟩) (q_preV hK hP (va_recv hK hP (ci := 4) (q0 := 0) rfl (mq_G isO_0))) rfl rfl hl.1 rfl (lv_room (Nat.le_of_ble_eq_true rfl)) dL_law_441 ⟨Nat.le_of_ble_eq_true rfl, Nat.le_of_ble_eq_true rfl⟩) hS hAd (fun H locs hP hS => ?_)
                            refine lv_aload_n hx hb dL_law_444 rfl (lv_at hl 3 rfl) ?_
                            refine lv_aload_n hx hb dL_law_445 rfl (lv_at hl 1 rfl) ?_
                            refine lv_iload_n hx hb dL_law_446 rfl (lv_at hl 0 rfl) ?_
                            refine lv_iconst (v := 1) hx hb dL_law_447 (by decide) ?_
                            refine lv_iadd hx hb dL_law_448 ?_
                            refine va_sld hx hb hX hbl hbA hS g82 dL_law_449 ?_
                            refine lv_aload_n hx hb dL_law_450 rfl (lv_at hl 1 rfl) ?_
                            refine lv_iload_n hx hb dL_law_451 rfl (lv_at hl 0 rfl) ?_
                            refine lv_iconst (v := 2) hx hb dL_law_452 (by decide) ?_
                            refine lv_iadd hx hb dL_law_453 ?_
                            refine va_sld hx hb hX hbl hbA hS g83 dL_law_454 ?_
                            have g85 := ok.1
                            have ok := ok.2
                            refine q_calli (va_runV (As := [.int (xs ((x3 + 1).toNatClampNeg)), .int (xs ((x3 + 2).toNatClampNeg))]) (rest := [.int (f_G_sent J (xs ((x3 + 1).toNatClampNeg)) (xs ((x3 + 2).toNatClampNeg)))]) ⟨hx, hb, hml, hown, hts⟩ (c_X_sent l D cs ad hi J (xs ((x3 + 1).toNatClampNeg)) (xs ((x3 + 2).toNatClampNeg)) g85) (cwV 2 hts (gV k_398 k_399 k_400 k_6 k_401) rfl rfl rfl (by decide +kernel) ⟨Nat.le_of_ble_eq_true rfl, Nat.le_of_ble_eq_true rfl⟩) (q_preV hK hP (va_recv hK hP (ci := 5) (q0 := 75) rfl (mq_X isO_75))) rfl rfl hl.1 rfl (lv_room (Nat.le_of_ble_eq_true rfl)) dL_law_455 ⟨Nat.le_of_ble_eq_true rfl, Nat.le_of_ble_eq_true rfl⟩) hS hAd (fun H locs hP hS => ?_)
                            refine lv_icmp_eq (tgt := 634) hx hb dL_law_458 (by decide) (fun c86 => ?_) (fun c86 => ?_)
                            · have ok := ok.1 c86
                              refine lv_iinc (v := x3 + 5) (lv' := [(3, .int (x3 + 5)), (0, .ref b), (1, .ref (ad 0)), (2, .ref (ad 75))]) hx hb dL_law_634 hl (k := 0) rfl rfl (by decide) rfl (fun ls hl => ?_)
                              refine lv_goto (tgt := 18) hx hb dL_law_637 (by decide) ?_
                              have g87 := ok
                              exact ih (k + 1) ((f_X_sent J (xs ((x3 + 1).toNatClampNeg)) (xs ((x3 + 2).toNatClampNeg))).2) (x3 + 5) _ _ _ (by omega) (hstep c1) (by rw [ex]; exact hnext k) g87 hP hS (lv_sub hl [0, 1, 2, 3] rfl)
                            · have ok := ok.2 c86
                              refine lv_iconst (v := 0) hx hb dL_law_461 (by decide) ?_
                              have g88 := ok
                              exact absurd g88 id
                          · have ok := ok.2 c81
                            by_cases c89 : ((xs x3.toNatClampNeg) &&& 31) = 11
                            · have ok := ok.1 c89
                              refine lv_tableIn (tgt := 463) (off := 431) hx hb dL_law_32 (by rw [c89]; decide) (by rw [c89]; decide) (by rw [c89]; rfl) (by decide) ?_
                              refine lv_aload_n hx hb dL_law_463 rfl (lv_at hl 2 rfl) ?_
                              refine lv_aload_n hx hb dL_law_464 rfl (lv_at hl 1 rfl) ?_
                              refine lv_iload_n hx hb dL_law_465 rfl (lv_at hl 0 rfl) ?_
                              refine lv_iconst (v := 1) hx hb dL_law_466 (by decide) ?_
                              refine lv_iadd hx hb dL_law_467 ?_
                              have g90 := ok.1
                              have ok := ok.2
                              refine va_sld hx hb hX hbl hbA hS g90 dL_law_468 ?_
                              have g91 := ok.1
                              have ok := ok.2
                              refine q_callp (va_runV (As := [.int (xs ((x3 + 1).toNatClampNeg))]) (rest := []) ⟨hx, hb, hml, hown, hts⟩ (c_G_kept l D cs ad hi J (xs ((x3 + 1).toNatClampNeg)) g91) (cwV 1 hts (gV k_238 k_239 k_240 k_1 k_241) rfl rfl rfl (by decide +kernel) ⟨Nat.le_of_ble_eq_true rfl, Nat.le_of_ble_eq_true rfl⟩) (q_preV hK hP (va_recv hK hP (ci := 4) (q0 := 0) rfl (mq_G isO_0))) rfl rfl hl.1 rfl (lv_room (Nat.le_of_ble_eq_true rfl)) dL_law_469 ⟨Nat.le_of_ble_eq_true rfl, Nat.le_of_ble_eq_true rfl⟩) hS hAd (fun H locs hP hS => ?_)
                              refine lv_aload_n hx hb dL_law_472 rfl (lv_at hl 3 rfl) ?_
                              refine lv_aload_n hx hb dL_law_473 rfl (lv_at hl 1 rfl) ?_
                              refine lv_iload_n hx hb dL_law_474 rfl (lv_at hl 0 rfl) ?_
                              refine lv_iconst (v := 1) hx hb dL_law_475 (by decide) ?_
                              refine lv_iadd hx hb dL_law_476 ?_
                              refine va_sld hx hb hX hbl hbA hS g90 dL_law_477 ?_
                              have g92 := ok.1
                              have ok := ok.2
                              refine q_callp (va_runV (As := [.int (xs ((x3 + 1).toNatClampNeg))]) (rest := [.int (f_G_kept J (xs ((x3 + 1).toNatClampNeg)))]) ⟨hx, hb, hml, hown, hts⟩ (c_X_kept l D cs ad hi J (xs ((x3 + 1).toNatClampNeg)) g92) (cwV 1 hts (gV k_402 k_403 k_404 k_6 k_405) rfl rfl rfl (by decide +kernel) ⟨Nat.le_of_ble_eq_true rfl, Nat.le_of_ble_eq_true rfl⟩) (q_preV hK hP (va_recv hK hP (ci := 5) (q0 := 75) rfl (mq_X isO_75))) rfl rfl hl.1 rfl (lv_room (Nat.le_of_ble_eq_true rfl)) dL_law_478 ⟨Nat.le_of_ble_eq_true rfl, Nat.le_of_ble_eq_true rfl⟩) hS hAd (fun H locs hP hS => ?_)
                              refine lv_icmp_eq (tgt := 634) hx hb dL_law_481 (by decide) (fun c93 => ?_) (fun c93 => ?_)
                              · have ok := ok.1 c93
                                refine lv_iinc (v := x3 + 5) (lv' := [(3, .int (x3 + 5)), (0, .ref b), (1, .ref (ad 0)), (2, .ref (ad 75))]) hx hb dL_law_634 hl (k := 0) rfl rfl (by decide) rfl (fun ls hl => ?_)
                                refine lv_goto (tgt := 18) hx hb dL_law_637 (by decide) ?_
                                have g94 := ok
                                exact ih (k + 1) J (x3 + 5) _ _ _ (by omega) (hstep c1) (by rw [ex]; exact hnext k) g94 hP hS (lv_sub hl [0, 1, 2, 3] rfl)
                              · have ok := ok.2 c93
                                refine lv_iconst (v := 0) hx hb dL_law_484 (by decide) ?_
                                have g95 := ok
                                exact absurd g95 id
                            · have ok := ok.2 c89
                              by_cases c96 : ((xs x3.toNatClampNeg) &&& 31) = 12
                              · have ok := ok.1 c96
                                refine lv_tableIn (tgt := 486) (off := 454) hx hb dL_law_32 (by rw [c96]; decide) (by rw [c96]; decide) (by rw [c96]; rfl) (by decide) ?_
                                refine lv_aload_n hx hb dL_law_486 rfl (lv_at hl 2 rfl) ?_
                                refine lv_aload_n hx hb dL_law_487 rfl (lv_at hl 1 rfl) ?_
                                refine lv_iload_n hx hb dL_law_488 rfl (lv_at hl 0 rfl) ?_
                                refine lv_iconst (v := 1) hx hb dL_law_489 (by decide) ?_
                                refine lv_iadd hx hb dL_law_490 ?_
                                have g97 := ok.1
                                have ok := ok.2
                                refine va_sld hx hb hX hbl hbA hS g97 dL_law_491 ?_
                                refine lv_aload_n hx hb dL_law_492 rfl (lv_at hl 1 rfl) ?_
                                refine lv_iload_n hx hb dL_law_493 rfl (lv_at hl 0 rfl) ?_
                                refine lv_iconst (v := 2) hx hb dL_law_494 (by decide) ?_
                                refine lv_iadd hx hb dL_law_495 ?_
                                have g98 := ok.1
                                have ok := ok.2
                                refine va_sld hx hb hX hbl hbA hS g98 dL_law_496 ?_
                                have g99 := ok.1
                                have ok := ok.2
                                refine q_callp (va_runV (As := [.int (xs ((x3 + 1).toNatClampNeg)), .int (xs ((x3 + 2).toNatClampNeg))]) (rest := []) ⟨hx, hb, hml, hown, hts⟩ (c_G_source l D cs ad hi J (xs ((x3 + 1).toNatClampNeg)) (xs ((x3 + 2).toNatClampNeg)) g99) (cwV 2 hts (gV k_242 k_243 k_244 k_1 k_245) rfl rfl rfl (by decide +kernel) ⟨Nat.le_of_ble_eq_true rfl, Nat.le_of_ble_eq_true rfl⟩) (q_preV hK hP (va_recv hK hP (ci := 4) (q0 := 0) rfl (mq_G isO_0))) rfl rfl hl.1 rfl (lv_room (Nat.le_of_ble_eq_true rfl)) dL_law_497 ⟨Nat.le_of_ble_eq_true rfl, Nat.le_of_ble_eq_true rfl⟩) hS hAd (fun H locs hP hS => ?_)
                                refine lv_aload_n hx hb dL_law_500 rfl (lv_at hl 3 rfl) ?_
                                refine lv_aload_n hx hb dL_law_501 rfl (lv_at hl 1 rfl) ?_
                                refine lv_iload_n hx hb dL_law_502 rfl (lv_at hl 0 rfl) ?_
                                refine lv_iconst (v := 1) hx hb dL_law_503 (by decide) ?_
                                refine lv_iadd hx hb dL_law_504 ?_
                                refine va_sld hx hb hX hbl hbA hS g97 dL_law_505 ?_
                                refine lv_aload_n hx hb dL_law_506 rfl (lv_at hl 1 rfl) ?_
                                refine lv_iload_n hx hb dL_law_507 rfl (lv_at hl 0 rfl) ?_
                                refine lv_iconst (v := 2) hx hb dL_law_508 (by decide) ?_
                                refine lv_iadd hx hb dL_law_509 ?_
                                refine va_sld hx hb hX hbl hbA hS g98 dL_law_510 ?_
                                have g100 := ok.1
                                have ok := ok.2
                                refine q_callp (va_runV (As := [.int (xs ((x3 + 1).toNatClampNeg)), .int (xs ((x3 + 2).toNatClampNeg))]) (rest := [.int (f_G_source J (xs ((x3 + 1).toNatClampNeg)) (xs ((x3 + 2).toNatClampNeg)))]) ⟨hx, hb, hml, hown, hts⟩ (c_X_source l D cs ad hi J (xs ((x3 + 1).toNatClampNeg)) (xs ((x3 + 2).toNatClampNeg)) g100) (cwV 2 hts (gV k_406 k_407 k_408 k_6 k_409) rfl rfl rfl (by decide +kernel) ⟨Nat.le_of_ble_eq_true rfl, Nat.le_of_ble_eq_true rfl⟩) (q_preV hK hP (va_recv hK hP (ci := 5) (q0 := 75) rfl (mq_X isO_75))) rfl rfl hl.1 rfl (lv_room (Nat.le_of_ble_eq_true rfl)) dL_law_511 ⟨Nat.le_of_ble_eq_true rfl, Nat.le_of_ble_eq_true rfl⟩) hS hAd (fun H locs hP hS => ?_)
                                refine lv_icmp_eq (tgt := 634) hx hb dL_law_514 (by decide) (fun c101 => ?_) (fun c101 => ?_)
                                · have ok := ok.1 c101
                                  refine lv_iinc (v := x3 + 5) (lv' := [(3, .int (x3 + 5)), (0, .ref b), (1, .ref (ad 0)), (2, .ref (ad 75))]) hx hb dL_law_634 hl (k := 0) rfl rfl (by decide) rfl (fun ls hl => ?_)
                                  refine lv_goto (tgt := 18) hx hb dL_law_637 (by decide) ?_
                                  have g102 := ok
                                  exact ih (k + 1) J (x3 + 5) _ _ _ (by omega) (hstep c1) (by rw [ex]; exact hnext k) g102 hP hS (lv_sub hl [0, 1, 2, 3] rfl)
                                · have ok := ok.2 c101
                                  refine lv_iconst (v := 0) hx hb dL_law_517 (by decide) ?_
                                  have g103 := ok
                                  exact absurd g103 id
                              · have ok := ok.2 c96
                                by_cases c104 : ((xs x3.toNatClampNeg) &&& 31) = 13
                                · have ok := ok.1 c104
                                  refine lv_tableIn (tgt := 519) (off := 487) hx hb dL_law_32 (by rw [c104]; decide) (by rw [c104]; decide) (by rw [c104]; rfl) (by decide) ?_
                                  refine lv_aload_n hx hb dL_law_519 rfl (lv_at hl 2 rfl) ?_
                                  refine lv_aload_n hx hb dL_law_520 rfl (lv_at hl 1 rfl) ?_
                                  refine lv_iload_n hx hb dL_law_521 rfl (lv_at hl 0 rfl) ?_
                                  refine lv_iconst (v := 1) hx hb dL_law_522 (by decide) ?_
                                  refine lv_iadd hx hb dL_law_523 ?_
                                  have g105 := ok.1
                                  have ok := ok.2
                                  refine va_sld hx hb hX hbl hbA hS g105 dL_law_524 ?_
                                  refine lv_aload_n hx hb dL_law_525 rfl (lv_at hl 1 rfl) ?_
                                  refine lv_iload_n hx hb dL_law_526 rfl (lv_at hl 0 rfl) ?_
                                  refine lv_iconst (v := 2) hx hb dL_law_527 (by decide) ?_
                                  refine lv_iadd hx hb dL_law_528 ?_
                                  have g106 := ok.1
                                  have ok := ok.2
                                  refine va_sld hx hb hX hbl hbA hS g106 dL_law_529 ?_
                                  have g107 := ok.1
                                  have ok := ok.2
                                  refine q_callp (va_runV (As := [.int (xs ((x3 + 1).toNatClampNeg)), .int (xs ((x3 + 2).toNatClampNeg))]) (rest := []) ⟨hx, hb, hml, hown, hts⟩ (c_G_waiting l D cs ad hi J (xs ((x3 + 1).toNatClampNeg)) (xs ((x3 + 2).toNatClampNeg)) g107) (cwV 2 hts (gV k_246 k_247 k_248 k_1 k_249) rfl rfl rfl (by decide +kernel) ⟨Nat.le_of_ble_eq_true rfl, Nat.le_of_ble_eq_true rfl⟩) (q_preV hK hP (va_recv hK hP (ci := 4) (q0 := 0) rfl (mq_G isO_0))) rfl rfl hl.1 rfl (lv_room (Nat.le_of_ble_eq_true rfl)) dL_law_530 ⟨Nat.le_of_ble_eq_true rfl, Nat.le_of_ble_eq_true rfl⟩) hS hAd (fun H locs hP hS => ?_)
                                  refine lv_aload_n hx hb dL_law_533 rfl (lv_at hl 3 rfl) ?_
                                  refine lv_aload_n hx hb dL_law_534 rfl (lv_at hl 1 rfl) ?_
                                  refine lv_iload_n hx hb dL_law_535 rfl (lv_at hl 0 rfl) ?_
                                  refine lv_iconst (v := 1) hx hb dL_law_536 (by decide) ?_
                                  refine lv_iadd hx hb dL_law_537 ?_
                                  refine va_sld hx hb hX hbl hbA hS g105 dL_law_538 ?_
                                  refine lv_aload_n hx hb dL_law_539 rfl (lv_at hl 1 rfl) ?_
                                  refine lv_iload_n hx hb dL_law_540 rfl (lv_at hl 0 rfl) ?_
                                  refine lv_iconst (v := 2) hx hb dL_law_541 (by decide) ?_
                                  refine lv_iadd hx hb dL_law_542 ?_
                                  refine va_sld hx hb hX hbl hbA hS g106 dL_law_543 ?_
                                  have g108 := ok.1
                                  have ok := ok.2
                                  refine q_callp (va_runV (As := [.int (xs ((x3 + 1).toNatClampNeg)), .int (xs ((x3 + 2).toNatClampNeg))]) (rest := [.int (f_G_waiting J (xs ((x3 + 1).toNatClampNeg)) (xs ((x3 + 2).toNatClampNeg)))]) ⟨hx, hb, hml, hown, hts⟩ (c_X_waiting l D cs ad hi J (xs ((x3 + 1).toNatClampNeg)) (xs ((x3 + 2).toNatClampNeg)) g108) (cwV 2 hts (gV k_410 k_411 k_412 k_6 k_413) rfl rfl rfl (by decide +kernel) ⟨Nat.le_of_ble_eq_true rfl, Nat.le_of_ble_eq_true rfl⟩) (q_preV hK hP (va_recv hK hP (ci := 5) (q0 := 75) rfl (mq_X isO_75))) rfl rfl hl.1 rfl (lv_room (Nat.le_of_ble_eq_true rfl)) dL_law_544 ⟨Nat.le_of_ble_eq_true rfl, Nat.le_of_ble_eq_true rfl⟩) hS hAd (fun H locs hP hS => ?_)
                                  refine lv_icmp_eq (tgt := 634) hx hb dL_law_547 (by decide) (fun c109 => ?_) (fun c109 => ?_)
                                  · have ok := ok.1 c109
                                    refine lv_iinc (v := x3 + 5) (lv' := [(3, .int (x3 + 5)), (0, .ref b), (1, .ref (ad 0)), (2, .ref (ad 75))]) hx hb dL_law_634 hl (k := 0) rfl rfl (by decide) rfl (fun ls hl => ?_)
                                    refine lv_goto (tgt := 18) hx hb dL_law_637 (by decide) ?_
                                    have g110 := ok
                                    exact ih (k + 1) J (x3 + 5) _ _ _ (by omega) (hstep c1) (by rw [ex]; exact hnext k) g110 hP hS (lv_sub hl [0, 1, 2, 3] rfl)
                                  · have ok := ok.2 c109
                                    refine lv_iconst (v := 0) hx hb dL_law_550 (by decide) ?_
                                    have g111 := ok
                                    exact absurd g111 id
                                · have ok := ok.2 c104
                                  by_cases c112 : ((xs x3.toNatClampNeg) &&& 31) = 14
                                  · have ok := ok.1 c112
                                    refine lv_tableIn (tgt := 552) (off := 520) hx hb dL_law_32 (by rw [c112]; decide) (by rw [c112]; decide) (by rw [c112]; rfl) (by decide) ?_
                                    refine lv_aload_n hx hb dL_law_552 rfl (lv_at hl 2 rfl) ?_
                                    refine lv_aload_n hx hb dL_law_553 rfl (lv_at hl 1 rfl) ?_
                                    refine lv_iload_n hx hb dL_law_554 rfl (lv_at hl 0 rfl) ?_
                                    refine lv_iconst (v := 1) hx hb dL_law_555 (by decide) ?_
                                    refine lv_iadd hx hb dL_law_556 ?_
                                    have g113 := ok.1
                                    have ok := ok.2
                                    refine va_sld hx hb hX hbl hbA hS g113 dL_law_557 ?_
                                    have g114 := ok.1
                                    have ok := ok.2
                                    refine q_callp (va_runV (As := [.int (xs ((x3 + 1).toNatClampNeg))]) (rest := []) ⟨hx, hb, hml, hown, hts⟩ (c_G_held l D cs ad hi J (xs ((x3 + 1).toNatClampNeg)) g114) (cwV 1 hts (gV k_250 k_251 k_252 k_1 k_253) rfl rfl rfl (by decide +kernel) ⟨Nat.le_of_ble_eq_true rfl, Nat.le_of_ble_eq_true rfl⟩) (q_preV hK hP (va_recv hK hP (ci := 4) (q0 := 0) rfl (mq_G isO_0))) rfl rfl hl.1 rfl (lv_room (Nat.le_of_ble_eq_true rfl)) dL_law_558 ⟨Nat.le_of_ble_eq_true rfl, Nat.le_of_ble_eq_true rfl⟩) hS hAd (fun H locs hP hS => ?_)
                                    refine lv_aload_n hx hb dL_law_561 rfl (lv_at hl 3 rfl) ?_
                                    refine lv_aload_n hx hb dL_law_562 rfl (lv_at hl 1 rfl) ?_
                                    refine lv_iload_n hx hb dL_law_563 rfl (lv_at hl 0 rfl) ?_
                                    refine lv_iconst (v := 1) hx hb dL_law_564 (by decide) ?_
                                    refine lv_iadd hx hb dL_law_565 ?_
                                    refine va_sld hx hb hX hbl hbA hS g113 dL_law_566 ?_
                                    have g115 := ok.1
                                    have ok := ok.2
                                    refine q_callp (va_runV (As := [.int (xs ((x3 + 1).toNatClampNeg))]) (rest := [.int (f_G_held J (xs ((x3 + 1).toNatClampNeg)))]) ⟨hx, hb, hml, hown, hts⟩ (c_X_held l D cs ad hi J (xs ((x3 + 1).toNatClampNeg)) g115) (cwV 1 hts (gV k_414 k_415 k_416 k_6 k_417) rfl rfl rfl (by decide +kernel) ⟨Nat.le_of_ble_eq_true rfl, Nat.le_of_ble_eq_true rfl⟩) (q_preV hK hP (va_recv hK hP (ci := 5) (q0 := 75) rfl (mq_X isO_75))) rfl rfl hl.1 rfl (lv_room (Nat.le_of_ble_eq_true rfl)) dL_law_567 ⟨Nat.le_of_ble_eq_true rfl, Nat.le_of_ble_eq_true rfl⟩) hS hAd (fun H locs hP hS => ?_)
                                    refine lv_icmp_eq (tgt := 634) hx hb dL_law_570 (by decide) (fun c116 => ?_) (fun c116 => ?_)
                                    · have ok := ok.1 c116
                                      refine lv_iinc (v := x3 + 5) (lv' := [(3, .int (x3 + 5)), (0, .ref b), (1, .ref (ad 0)), (2, .ref (ad 75))]) hx hb dL_law_634 hl (k := 0) rfl rfl (by decide) rfl (fun ls hl => ?_)
                                      refine lv_goto (tgt := 18) hx hb dL_law_637 (by decide) ?_
                                      have g117 := ok
                                      exact ih (k + 1) J (x3 + 5) _ _ _ (by omega) (hstep c1) (by rw [ex]; exact hnext k) g117 hP hS (lv_sub hl [0, 1, 2, 3] rfl)
                                    · have ok := ok.2 c116
                                      refine lv_iconst (v := 0) hx hb dL_law_573 (by decide) ?_
                                      have g118 := ok
                                      exact absurd g118 id
                                  · have ok := ok.2 c112
                                    by_cases c119 : ((xs x3.toNatClampNeg) &&& 31) = 15
                                    · have ok := ok.1 c119
                                      refine lv_tableIn (tgt := 575) (off := 543) hx hb dL_law_32 (by rw [c119]; decide) (by rw [c119]; decide) (by rw [c119]; rfl) (by decide) ?_
                                      refine lv_aload_n hx hb dL_law_575 rfl (lv_at hl 2 rfl) ?_
                                      refine q_callp (va_runV (As := []) (rest := []) ⟨hx, hb, hml, hown, hts⟩ (c_G_outputs l D cs ad hi J) (cwV 0 hts (gV k_254 k_255 k_256 k_1 k_257) rfl rfl rfl (by decide +kernel) ⟨Nat.le_of_ble_eq_true rfl, Nat.le_of_ble_eq_true rfl⟩) (q_preV hK hP (va_recv hK hP (ci := 4) (q0 := 0) rfl (mq_G isO_0))) rfl rfl hl.1 rfl (lv_room (Nat.le_of_ble_eq_true rfl)) dL_law_576 ⟨Nat.le_of_ble_eq_true rfl, Nat.le_of_ble_eq_true rfl⟩) hS hAd (fun H locs hP hS => ?_)
                                      refine lv_aload_n hx hb dL_law_579 rfl (lv_at hl 3 rfl) ?_
                                      refine q_callp (va_runV (As := []) (rest := [.int (f_G_outputs J)]) ⟨hx, hb, hml, hown, hts⟩ (c_X_outputs l D cs ad hi J) (cwV 0 hts (gV k_418 k_419 k_420 k_6 k_421) rfl rfl rfl (by decide +kernel) ⟨Nat.le_of_ble_eq_true rfl, Nat.le_of_ble_eq_true rfl⟩) (q_preV hK hP (va_recv hK hP (ci := 5) (q0 := 75) rfl (mq_X isO_75))) rfl rfl hl.1 rfl (lv_room (Nat.le_of_ble_eq_true rfl)) dL_law_580 ⟨Nat.le_of_ble_eq_true rfl, Nat.le_of_ble_eq_true rfl⟩) hS hAd (fun H locs hP hS => ?_)
                                      refine lv_icmp_eq (tgt := 634) hx hb dL_law_583 (by decide) (fun c120 => ?_) (fun c120 => ?_)
                                      · have ok := ok.1 c120
                                        refine lv_iinc (v := x3 + 5) (lv' := [(3, .int (x3 + 5)), (0, .ref b), (1, .ref (ad 0)), (2, .ref (ad 75))]) hx hb dL_law_634 hl (k := 0) rfl rfl (by decide) rfl (fun ls hl => ?_)
                                        refine lv_goto (tgt := 18) hx hb dL_law_637 (by decide) ?_
                                        have g121 := ok
                                        exact ih (k + 1) J (x3 + 5) _ _ _ (by omega) (hstep c1) (by rw [ex]; exact hnext k) g121 hP hS (lv_sub hl [0, 1, 2, 3] rfl)
                                      · have ok := ok.2 c120
                                        refine lv_iconst (v := 0) hx hb dL_law_586 (by decide) ?_
                                        have g122 := ok
                                        exact absurd g122 id
                                    · have ok := ok.2 c119
                                      by_cases c123 : ((xs x3.toNatClampNeg) &&& 31) = 16
                                      · have ok := ok.1 c123
                                        refine lv_tableIn (tgt := 588) (off := 556) hx hb dL_law_32 (by rw [c123]; decide) (by rw [c123]; decide) (by rw [c123]; rfl) (by decide) ?_
                                        refine lv_aload_n hx hb dL_law_588 rfl (lv_at hl 2 rfl) ?_
                                        refine lv_aload_n hx hb dL_law_589 rfl (lv_at hl 1 rfl) ?_
                                        refine lv_iload_n hx hb dL_law_590 rfl (lv_at hl 0 rfl) ?_
                                        refine lv_iconst (v := 1) hx hb dL_law_591 (by decide) ?_
                                        refine lv_iadd hx hb dL_law_592 ?_
                                        have g124 := ok.1
                                        have ok := ok.2
                                        refine va_sld hx hb hX hbl hbA hS g124 dL_law_593 ?_
                                        have g125 := ok.1
                                        have ok := ok.2
                                        refine q_callp (va_runV (As := [.int (xs ((x3 + 1).toNatClampNeg))]) (rest := []) ⟨hx, hb, hml, hown, hts⟩ (c_G_author l D cs ad hi J (xs ((x3 + 1).toNatClampNeg)) g125) (cwV 1 hts (gV k_258 k_259 k_260 k_1 k_261) rfl rfl rfl (by decide +kernel) ⟨Nat.le_of_ble_eq_true rfl, Nat.le_of_ble_eq_true rfl⟩) (q_preV hK hP (va_recv hK hP (ci := 4) (q0 := 0) rfl (mq_G isO_0))) rfl rfl hl.1 rfl (lv_room (Nat.le_of_ble_eq_true rfl)) dL_law_594 ⟨Nat.le_of_ble_eq_true rfl, Nat.le_of_ble_eq_true rfl⟩) hS hAd (fun H locs hP hS => ?_)
                                        refine lv_aload_n hx hb dL_law_597 rfl (lv_at hl 3 rfl) ?_
                                        refine lv_aload_n hx hb dL_law_598 rfl (lv_at hl 1 rfl) ?_
                                        refine lv_iload_n hx hb dL_law_599 rfl (lv_at hl 0 rfl) ?_
                                        refine lv_iconst (v := 1) hx hb dL_law_600 (by decide) ?_
                                        refine lv_iadd hx hb dL_law_601 ?_
                                        refine va_sld hx hb hX hbl hbA hS g124 dL_law_602 ?_
                                        have g126 := ok.1
                                        have ok := ok.2
                                        refine q_callp (va_runV (As := [.int (xs ((x3 + 1).toNatClampNeg))]) (rest := [.int (f_G_author J (xs ((x3 + 1).toNatClampNeg)))]) ⟨hx, hb, hml, hown, hts⟩ (c_X_author l D cs ad hi J (xs ((x3 + 1).toNatClampNeg)) g126) (cwV 1 hts (gV k_422 k_423 k_424 k_6 k_425) rfl rfl rfl (by decide +kernel) ⟨Nat.le_of_ble_eq_true rfl, Nat.le_of_ble_eq_true rfl⟩) (q_preV hK hP (va_recv hK hP (ci := 5) (q0 := 75) rfl (mq_X isO_75))) rfl rfl hl.1 rfl (lv_room (Nat.le_of_ble_eq_true rfl)) dL_law_603 ⟨Nat.le_of_ble_eq_true rfl, Nat.le_of_ble_eq_true rfl⟩) hS hAd (fun H locs hP hS => ?_)
                                        refine lv_icmp_eq (tgt := 634) hx hb dL_law_606 (by decide) (fun c127 => ?_) (fun c127 => ?_)
                                        · have ok := ok.1 c127
                                          refine lv_iinc (v := x3 + 5) (lv' := [(3, .int (x3 + 5)), (0, .ref b), (1, .ref (ad 0)), (2, .ref (ad 75))]) hx hb dL_law_634 hl (k := 0) rfl rfl (by decide) rfl (fun ls hl => ?_)
                                          refine lv_goto (tgt := 18) hx hb dL_law_637 (by decide) ?_
                                          have g128 := ok
                                          exact ih (k + 1) J (x3 + 5) _ _ _ (by omega) (hstep c1) (by rw [ex]; exact hnext k) g128 hP hS (lv_sub hl [0, 1, 2, 3] rfl)
                                        · have ok := ok.2 c127
                                          refine lv_iconst (v := 0) hx hb dL_law_609 (by decide) ?_
                                          have g129 := ok
                                          exact absurd g129 id
                                      · have ok := ok.2 c123
                                        by_cases c130 : ((xs x3.toNatClampNeg) &&& 31) = 17
                                        · have ok := ok.1 c130
                                          refine lv_tableIn (tgt := 611) (off := 579) hx hb dL_law_32 (by rw [c130]; decide) (by rw [c130]; decide) (by rw [c130]; rfl) (by decide) ?_
                                          refine lv_aload_n hx hb dL_law_611 rfl (lv_at hl 2 rfl) ?_
                                          refine lv_aload_n hx hb dL_law_612 rfl (lv_at hl 1 rfl) ?_
                                          refine lv_iload_n hx hb dL_law_613 rfl (lv_at hl 0 rfl) ?_
                                          refine lv_iconst (v := 1) hx hb dL_law_614 (by decide) ?_
                                          refine lv_iadd hx hb dL_law_615 ?_
                                          have g131 := ok.1
                                          have ok := ok.2
                                          refine va_sld hx hb hX hbl hbA hS g131 dL_law_616 ?_
                                          have g132 := ok.1
                                          have ok := ok.2
                                          refine q_callp (va_runV (As := [.int (xs ((x3 + 1).toNatClampNeg))]) (rest := []) ⟨hx, hb, hml, hown, hts⟩ (c_G_output l D cs ad hi J (xs ((x3 + 1).toNatClampNeg)) g132) (cwV 1 hts (gV k_265 k_266 k_267 k_1 k_268) rfl rfl rfl (by decide +kernel) ⟨Nat.le_of_ble_eq_true rfl, Nat.le_of_ble_eq_true rfl⟩) (q_preV hK hP (va_recv hK hP (ci := 4) (q0 := 0) rfl (mq_G isO_0))) rfl rfl hl.1 rfl (lv_room (Nat.le_of_ble_eq_true rfl)) dL_law_617 ⟨Nat.le_of_ble_eq_true rfl, Nat.le_of_ble_eq_true rfl⟩) hS hAd (fun H locs hP hS => ?_)
                                          refine lv_aload_n hx hb dL_law_620 rfl (lv_at hl 3 rfl) ?_
                                          refine lv_aload_n hx hb dL_law_621 rfl (lv_at hl 1 rfl) ?_
                                          refine lv_iload_n hx hb dL_law_622 rfl (lv_at hl 0 rfl) ?_
                                          refine lv_iconst (v := 1) hx hb dL_law_623 (by decide) ?_
                                          refine lv_iadd hx hb dL_law_624 ?_
                                          refine va_sld hx hb hX hbl hbA hS g131 dL_law_625 ?_
                                          have g133 := ok.1
                                          have ok := ok.2
                                          refine q_callp (va_runV (As := [.int (xs ((x3 + 1).toNatClampNeg))]) (rest := [.int (f_G_output J (xs ((x3 + 1).toNatClampNeg)))]) ⟨hx, hb, hml, hown, hts⟩ (c_X_output l D cs ad hi J (xs ((x3 + 1).toNatClampNeg)) g133) (cwV 1 hts (gV k_426 k_427 k_428 k_6 k_429) rfl rfl rfl (by decide +kernel) ⟨Nat.le_of_ble_eq_true rfl, Nat.le_of_ble_eq_true rfl⟩) (q_preV hK hP (va_recv hK hP (ci := 5) (q0 := 75) rfl (mq_X isO_75))) rfl rfl hl.1 rfl (lv_room (Nat.le_of_ble_eq_true rfl)) dL_law_626 ⟨Nat.le_of_ble_eq_true rfl, Nat.le_of_ble_eq_true rfl⟩) hS hAd (fun H locs hP hS => ?_)
                                          refine lv_icmp_eq (tgt := 634) hx hb dL_law_629 (by decide) (fun c134 => ?_) (fun c134 => ?_)
                                          · have ok := ok.1 c134
                                            refine lv_iinc (v := x3 + 5) (lv' := [(3, .int (x3 + 5)), (0, .ref b), (1, .ref (ad 0)), (2, .ref (ad 75))]) hx hb dL_law_634 hl (k := 0) rfl rfl (by decide) rfl (fun ls hl => ?_)
                                            refine lv_goto (tgt := 18) hx hb dL_law_637 (by decide) ?_
                                            have g135 := ok
                                            exact ih (k + 1) J (x3 + 5) _ _ _ (by omega) (hstep c1) (by rw [ex]; exact hnext k) g135 hP hS (lv_sub hl [0, 1, 2, 3] rfl)
                                          · have ok := ok.2 c134
                                            refine lv_iconst (v := 0) hx hb dL_law_632 (by decide) ?_
                                            have g136 := ok
                                            exact absurd g136 id
                                        · have ok := ok.2 c130
                                          refine lv_tableOut (tgt := 634) hx hb dL_law_32 (tb_out0_17 c3 c13 c21 c29 c36 c44 c51 c58 c65 c73 c81 c89 c96 c104 c112 c119 c123 c130) (by decide) ?_
                                          refine lv_iinc (v := x3 + 5) (lv' := [(3, .int (x3 + 5)), (0, .ref b), (1, .ref (ad 0)), (2, .ref (ad 75))]) hx hb dL_law_634 hl (k := 0) rfl rfl (by decide) rfl (fun ls hl => ?_)
                                          refine lv_goto (tgt := 18) hx hb dL_law_637 (by decide) ?_
                                          have g137 := ok
                                          exact ih (k + 1) J (x3 + 5) _ _ _ (by omega) (hstep c1) (by rw [ex]; exact hnext k) g137 hP hS (lv_sub hl [0, 1, 2, 3] rfl)
